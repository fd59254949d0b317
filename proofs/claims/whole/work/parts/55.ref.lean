/-! A FLAG, as the reference works it out: ver the versions, mt who was met *-/
def sameV (im : Nat → Nat → Int32) (ver : Nat → Int32) (t k : Nat) : Bool := decide (im 385 (16 * t + k) < 0) || decide (im 385 (16 * t + k) = ver k)
def alikV (im : Nat → Nat → Int32) (ver : Nat → Int32) (t k j : Nat) : Bool := decide (nI k < im 389 (2 * t + j)) || decide (im 390 (2 * t + j) < nI k) || decide (im 391 (16 * (2 * t + j) + k) = ver k)
def alikK (im : Nat → Nat → Int32) (ver : Nat → Int32) (t k : Nat) : Bool := allN (alikV im ver t k) (tn (im 388 t))
def gRest (im : Nat → Nat → Int32) (ver : Nat → Int32) (t : Nat) : Int32 := if allN (sameV im ver t) 16 = false then 2 else if allN (alikK im ver t) 16 = false then 3 else 0
def gFlag (im : Nat → Nat → Int32) (ver mt : Nat → Int32) (t : Nat) : Int32 := if mt t ≠ 0 then 4 else if fulV im (tn (im 381 t)) (im 383 t) = 0 then 1 else gRest im ver t
def bI (b : Bool) : Int32 := if b = true then 1 else 0
theorem bI_t : bI true = 1 := rfl
theorem bI_f : bI false = 0 := rfl
theorem bI_0 {b : Bool} (h : bI b = 0) : b = false := by cases b with | false => rfl | true => exact absurd h (by decide)
theorem bI_1 {b : Bool} (h : ¬ bI b = 0) : b = true := by cases b with | true => rfl | false => exact absurd rfl h
set_option maxRecDepth 20000 in
set_option maxHeartbeats 4000000 in
theorem l92i {LS : Nat} {rm : Nat → Nat → Option Nat} {im : Nat → Nat → Int32} {P : Option Value → (Nat → Nat → Int32) → Prop} {t k nr : Nat} {sa : Int32} (hO : isMo LS rm) (ht : t < 60) (hk : k < 16) (hr : im 388 t = nI nr) (hr2 : nr ≤ 2) (kk : ∀ (u : Value), Gm LS rm 92 187 [.ref 371, .int (nI t), .int sa, .int (bI (allN (alikK im (im 406) t) k && allN (alikV im (im 406) t k) nr)), .int (nI k), u] [] im P) : ∀ (n j : Nat), j + n = nr → Gm LS rm 92 109 [.ref (371), .int (nI t), .int (sa), .int ((bI (allN (alikK im (im 406) t) k && allN (alikV im (im 406) t k) j))), .int (nI k), .int (nI (2 * t + j))] [] (im) P := by
  intro n
  induction n with
  | zero =>
    intro j hj
    have hie : nr = j := by omega
    subst hie
    refine g_iload k92_109 rfl ?_
    refine g_iconst (v := 2) k92_111 ic_2 ?_
    refine g_iload_n k92_112 rfl ?_
    refine g_imul k92_113 ?_
    refine g_aload_n k92_114 rfl ?_
    refine g_getr k92_115 (sM371) (by decide) (mo_ranges hO) ?_
    refine g_iload_n k92_118 rfl ?_
    refine g_ialv (v := nI nr) k92_119 (sM388) (by omega) (by decide) (hr) ?_
    refine g_iadd k92_120 ?_
    refine g_top (y := nI (2 * t + nr)) (by rw [show (2 : Int32) = nI 2 from rfl, pk_mul, nI_add]) ?_
    refine g_icmp_ge k92_121 (fun _ => ?_) (fun h9 => absurd (nI_le (Nat.le_refl _) (by omega)) h9)
    exact kk _
  | succ n ih =>
    intro j hj
    have hlt : j < nr := by omega
    refine g_iload k92_109 rfl ?_
    refine g_iconst (v := 2) k92_111 ic_2 ?_
    refine g_iload_n k92_112 rfl ?_
    refine g_imul k92_113 ?_
    refine g_aload_n k92_114 rfl ?_
    refine g_getr k92_115 (sM371) (by decide) (mo_ranges hO) ?_
    refine g_iload_n k92_118 rfl ?_
    refine g_ialv (v := nI nr) k92_119 (sM388) (by omega) (by decide) (hr) ?_
    refine g_iadd k92_120 ?_
    refine g_top (y := nI (2 * t + nr)) (by rw [show (2 : Int32) = nI 2 from rfl, pk_mul, nI_add]) ?_
    refine g_icmp_ge k92_121 (fun h9 => absurd h9 (nI_ge (by omega) (by omega))) (fun _ => ?_)
    refine g_iload_n k92_124 rfl ?_
    refine g_if_eq k92_125 (fun g => ?_) (fun g => ?_)
    · have b0 := bI_0 g
      refine g_iconst (v := 0) k92_179 ic_0 ?_
      refine g_istore_n k92_180 (by decide) rfl ?_
      refine g_iincv (y := nI (2 * t + (j + 1))) k92_181 rfl (by decide) (inc_1 _) rfl ?_
      refine g_goto k92_184 ?_
      have e1 : (allN (alikK im (im 406) t) k && allN (alikV im (im 406) t k) (j + 1)) = false := by
        show (allN (alikK im (im 406) t) k && (allN (alikV im (im 406) t k) j && alikV im (im 406) t k j)) = _
        rw [← Bool.and_assoc, b0]; rfl
      have := ih (j + 1) (by omega)
      rw [e1] at this
      exact this
    · have b1 := bI_1 g
      refine g_iload k92_128 rfl ?_
      refine g_aload_n k92_130 rfl ?_
      refine g_getr k92_131 (sM371) (by decide) (mo_from hO) ?_
      refine g_iload k92_134 rfl ?_
      refine g_ialv k92_136 (sM389) (by omega) (by decide) (rfl) ?_
      refine g_icmp_lt k92_137 (fun d1 => ?_) (fun d1 => ?_)
      · refine g_iconst (v := 1) k92_175 ic_1 ?_
        refine g_goto k92_176 ?_
        refine g_istore_n k92_180 (by decide) rfl ?_
        refine g_iincv (y := nI (2 * t + (j + 1))) k92_181 rfl (by decide) (inc_1 _) rfl ?_
        refine g_goto k92_184 ?_
        have e1 : (allN (alikK im (im 406) t) k && allN (alikV im (im 406) t k) (j + 1)) = true := by
          show (allN (alikK im (im 406) t) k && (allN (alikV im (im 406) t k) j && alikV im (im 406) t k j)) = _
          rw [← Bool.and_assoc, b1]; show alikV im (im 406) t k j = _; simp [alikV, d1]
        have := ih (j + 1) (by omega)
        rw [e1] at this
        exact this
      · refine g_iload k92_140 rfl ?_
        refine g_aload_n k92_142 rfl ?_
        refine g_getr k92_143 (sM371) (by decide) (mo_to hO) ?_
        refine g_iload k92_146 rfl ?_
        refine g_ialv k92_148 (sM390) (by omega) (by decide) (rfl) ?_
        refine g_icmp_gt k92_149 (fun d2 => ?_) (fun d2 => ?_)
        · refine g_iconst (v := 1) k92_175 ic_1 ?_
          refine g_goto k92_176 ?_
          refine g_istore_n k92_180 (by decide) rfl ?_
          refine g_iincv (y := nI (2 * t + (j + 1))) k92_181 rfl (by decide) (inc_1 _) rfl ?_
          refine g_goto k92_184 ?_
          have e1 : (allN (alikK im (im 406) t) k && allN (alikV im (im 406) t k) (j + 1)) = true := by
            show (allN (alikK im (im 406) t) k && (allN (alikV im (im 406) t k) j && alikV im (im 406) t k j)) = _
            rw [← Bool.and_assoc, b1]; show alikV im (im 406) t k j = _; simp [alikV, d2]
          have := ih (j + 1) (by omega)
          rw [e1] at this
          exact this
        · refine g_aload_n k92_152 rfl ?_
          refine g_getr k92_153 (sM371) (by decide) (mo_seen hO) ?_
          refine g_bipush (v := 16) k92_156 bp_16 ?_
          refine g_iload k92_158 rfl ?_
          refine g_imul k92_160 ?_
          refine g_iload k92_161 rfl ?_
          refine g_iadd k92_163 ?_
          refine g_top (y := nI (16 * (2 * t + j) + k)) (by rw [show (16 : Int32) = nI 16 from rfl, pk_mul, nI_add]) ?_
          refine g_ialv k92_164 (sM391) (by omega) (by decide) (rfl) ?_
          refine g_aload_n k92_165 rfl ?_
          refine g_getr k92_166 (sM371) (by decide) (mo_version hO) ?_
          refine g_iload k92_169 rfl ?_
          refine g_ialv k92_171 (sM406) (hk) (by decide) (rfl) ?_
          refine g_icmp_ne k92_172 (fun d3 => ?_) (fun d3 => ?_)
          · refine g_iconst (v := 0) k92_179 ic_0 ?_
            refine g_istore_n k92_180 (by decide) rfl ?_
            refine g_iincv (y := nI (2 * t + (j + 1))) k92_181 rfl (by decide) (inc_1 _) rfl ?_
            refine g_goto k92_184 ?_
            have e1 : (allN (alikK im (im 406) t) k && allN (alikV im (im 406) t k) (j + 1)) = false := by
              show (allN (alikK im (im 406) t) k && (allN (alikV im (im 406) t k) j && alikV im (im 406) t k j)) = _
              rw [← Bool.and_assoc, b1]; show alikV im (im 406) t k j = _; simp [alikV, d1, d2, d3]
            have := ih (j + 1) (by omega)
            rw [e1] at this
            exact this
          · refine g_iconst (v := 1) k92_175 ic_1 ?_
            refine g_goto k92_176 ?_
            refine g_istore_n k92_180 (by decide) rfl ?_
            refine g_iincv (y := nI (2 * t + (j + 1))) k92_181 rfl (by decide) (inc_1 _) rfl ?_
            refine g_goto k92_184 ?_
            have e1 : (allN (alikK im (im 406) t) k && allN (alikV im (im 406) t k) (j + 1)) = true := by
              show (allN (alikK im (im 406) t) k && (allN (alikV im (im 406) t k) j && alikV im (im 406) t k j)) = _
              rw [← Bool.and_assoc, b1]; show alikV im (im 406) t k j = _; simp [alikV, d3]
            have := ih (j + 1) (by omega)
            rw [e1] at this
            exact this

set_option maxRecDepth 20000 in
set_option maxHeartbeats 4000000 in
theorem l92 {LS : Nat} {rm : Nat → Nat → Option Nat} {im : Nat → Nat → Int32} {P : Option Value → (Nat → Nat → Int32) → Prop} {t nr : Nat} (hO : isMo LS rm) (ht : t < 60) (hr : im 388 t = nI nr) (hr2 : nr ≤ 2) (h1 : P (some (.int (gRest im (im 406) t))) im) : ∀ (n i : Nat), i + n = 16 → ∀ (u : Value), Gm LS rm 92 50 [.ref (371), .int (nI t), .int ((bI (allN (sameV im (im 406) t) i))), .int ((bI (allN (alikK im (im 406) t) i))), .int (nI i), u] [] (im) P := by
  intro n
  induction n with
  | zero =>
    intro i hi u
    have hie : i = 16 := by omega
    subst hie
    refine g_iload k92_50 rfl ?_
    refine g_bipush (v := 16) k92_52 bp_16 ?_
    refine g_icmp_ge k92_54 (fun _ => ?_) (fun h9 => absurd (nI_le (Nat.le_refl _) (by decide)) h9)
    unfold gRest at h1
    refine g_iload_n k92_193 rfl ?_
    refine g_if_ne k92_194 (fun g => ?_) (fun g => ?_)
    · have g2 := bI_1 g
      rw [if_neg (by rw [g2]; decide)] at h1
      refine g_iload_n k92_201 rfl ?_
      refine g_if_ne k92_202 (fun d => ?_) (fun d => ?_)
      · have d2 := bI_1 d
        rw [if_neg (by rw [d2]; decide)] at h1
        refine g_iconst (v := 0) k92_209 ic_0 ?_
        exact g_reti k92_210 rfl (h1)
      · rw [if_pos (bI_0 d)] at h1
        refine g_iconst (v := 3) k92_205 ic_3 ?_
        refine g_goto k92_206 ?_
        exact g_reti k92_210 rfl (h1)
    · rw [if_pos (bI_0 g)] at h1
      refine g_iconst (v := 2) k92_197 ic_2 ?_
      refine g_goto k92_198 ?_
      exact g_reti k92_210 rfl (h1)
  | succ n ih =>
    intro i hi u
    have hlt : i < 16 := by omega
    refine g_iload k92_50 rfl ?_
    refine g_bipush (v := 16) k92_52 bp_16 ?_
    refine g_icmp_ge k92_54 (fun h9 => absurd h9 (nI_ge hlt (by decide))) (fun _ => ?_)
    refine g_iload_n k92_57 rfl ?_
    refine g_if_eq k92_58 (fun g => ?_) (fun g => ?_)
    · have b0 := bI_0 g
      refine g_iconst (v := 0) k92_102 ic_0 ?_
      refine g_istore_n k92_103 (by decide) rfl ?_
      refine g_iconst (v := 2) k92_104 ic_2 ?_
      refine g_iload_n k92_105 rfl ?_
      refine g_imul k92_106 ?_
      refine g_top (y := nI (2 * t + 0)) (by rw [show (2 : Int32) = nI 2 from rfl, pk_mul]; rfl) ?_
      refine g_istore k92_107 (by decide) rfl ?_
      have e1 : allN (sameV im (im 406) t) (i + 1) = false := by
        show (allN (sameV im (im 406) t) i && sameV im (im 406) t i) = _
        rw [b0]; rfl
      have e3 : (allN (alikK im (im 406) t) i && allN (alikV im (im 406) t i) 0) = allN (alikK im (im 406) t) i := Bool.and_true _
      have e4 : allN (alikK im (im 406) t) (i + 1) = (allN (alikK im (im 406) t) i && allN (alikV im (im 406) t i) nr) := by
        show (allN (alikK im (im 406) t) i && alikK im (im 406) t i) = _
        unfold alikK
        rw [hr, tn_nI (by omega)]
      have hin := l92i (k := i) (sa := bI (false)) (P := P) hO ht hlt hr hr2 (fun u => ?_) nr 0 (by omega)
      · rw [e3] at hin
        exact hin
      · refine g_iincv (y := nI (i + 1)) k92_187 rfl (by decide) (inc_1 i) rfl ?_
        refine g_goto k92_190 ?_
        have := ih (i + 1) (by omega) u
        rw [e1, e4] at this
        exact this
    · have b1 := bI_1 g
      refine g_aload_n k92_61 rfl ?_
      refine g_getr k92_62 (sM371) (by decide) (mo_read hO) ?_
      refine g_bipush (v := 16) k92_65 bp_16 ?_
      refine g_iload_n k92_67 rfl ?_
      refine g_imul k92_68 ?_
      refine g_iload k92_69 rfl ?_
      refine g_iadd k92_71 ?_
      refine g_top (y := nI (16 * t + i)) (by rw [show (16 : Int32) = nI 16 from rfl, pk_mul, nI_add]) ?_
      refine g_ialv k92_72 (sM385) (by omega) (by decide) (rfl) ?_
      refine g_if_lt k92_73 (fun d1 => ?_) (fun d1 => ?_)
      · refine g_iconst (v := 1) k92_98 ic_1 ?_
        refine g_goto k92_99 ?_
        refine g_istore_n k92_103 (by decide) rfl ?_
        refine g_iconst (v := 2) k92_104 ic_2 ?_
        refine g_iload_n k92_105 rfl ?_
        refine g_imul k92_106 ?_
        refine g_top (y := nI (2 * t + 0)) (by rw [show (2 : Int32) = nI 2 from rfl, pk_mul]; rfl) ?_
        refine g_istore k92_107 (by decide) rfl ?_
        have e1 : allN (sameV im (im 406) t) (i + 1) = true := by
          show (allN (sameV im (im 406) t) i && sameV im (im 406) t i) = _
          rw [b1]; show sameV im (im 406) t i = _; simp [sameV, d1]
        have e3 : (allN (alikK im (im 406) t) i && allN (alikV im (im 406) t i) 0) = allN (alikK im (im 406) t) i := Bool.and_true _
        have e4 : allN (alikK im (im 406) t) (i + 1) = (allN (alikK im (im 406) t) i && allN (alikV im (im 406) t i) nr) := by
          show (allN (alikK im (im 406) t) i && alikK im (im 406) t i) = _
          unfold alikK
          rw [hr, tn_nI (by omega)]
        have hin := l92i (k := i) (sa := bI (true)) (P := P) hO ht hlt hr hr2 (fun u => ?_) nr 0 (by omega)
        · rw [e3] at hin
          exact hin
        · refine g_iincv (y := nI (i + 1)) k92_187 rfl (by decide) (inc_1 i) rfl ?_
          refine g_goto k92_190 ?_
          have := ih (i + 1) (by omega) u
          rw [e1, e4] at this
          exact this
      · refine g_aload_n k92_76 rfl ?_
        refine g_getr k92_77 (sM371) (by decide) (mo_read hO) ?_
        refine g_bipush (v := 16) k92_80 bp_16 ?_
        refine g_iload_n k92_82 rfl ?_
        refine g_imul k92_83 ?_
        refine g_iload k92_84 rfl ?_
        refine g_iadd k92_86 ?_
        refine g_top (y := nI (16 * t + i)) (by rw [show (16 : Int32) = nI 16 from rfl, pk_mul, nI_add]) ?_
        refine g_ialv k92_87 (sM385) (by omega) (by decide) (rfl) ?_
        refine g_aload_n k92_88 rfl ?_
        refine g_getr k92_89 (sM371) (by decide) (mo_version hO) ?_
        refine g_iload k92_92 rfl ?_
        refine g_ialv k92_94 (sM406) (hlt) (by decide) (rfl) ?_
        refine g_icmp_ne k92_95 (fun d2 => ?_) (fun d2 => ?_)
        · refine g_iconst (v := 0) k92_102 ic_0 ?_
          refine g_istore_n k92_103 (by decide) rfl ?_
          refine g_iconst (v := 2) k92_104 ic_2 ?_
          refine g_iload_n k92_105 rfl ?_
          refine g_imul k92_106 ?_
          refine g_top (y := nI (2 * t + 0)) (by rw [show (2 : Int32) = nI 2 from rfl, pk_mul]; rfl) ?_
          refine g_istore k92_107 (by decide) rfl ?_
          have e1 : allN (sameV im (im 406) t) (i + 1) = false := by
            show (allN (sameV im (im 406) t) i && sameV im (im 406) t i) = _
            rw [b1]; show sameV im (im 406) t i = _; simp [sameV, d1, d2]
          have e3 : (allN (alikK im (im 406) t) i && allN (alikV im (im 406) t i) 0) = allN (alikK im (im 406) t) i := Bool.and_true _
          have e4 : allN (alikK im (im 406) t) (i + 1) = (allN (alikK im (im 406) t) i && allN (alikV im (im 406) t i) nr) := by
            show (allN (alikK im (im 406) t) i && alikK im (im 406) t i) = _
            unfold alikK
            rw [hr, tn_nI (by omega)]
          have hin := l92i (k := i) (sa := bI (false)) (P := P) hO ht hlt hr hr2 (fun u => ?_) nr 0 (by omega)
          · rw [e3] at hin
            exact hin
          · refine g_iincv (y := nI (i + 1)) k92_187 rfl (by decide) (inc_1 i) rfl ?_
            refine g_goto k92_190 ?_
            have := ih (i + 1) (by omega) u
            rw [e1, e4] at this
            exact this
        · refine g_iconst (v := 1) k92_98 ic_1 ?_
          refine g_goto k92_99 ?_
          refine g_istore_n k92_103 (by decide) rfl ?_
          refine g_iconst (v := 2) k92_104 ic_2 ?_
          refine g_iload_n k92_105 rfl ?_
          refine g_imul k92_106 ?_
          refine g_top (y := nI (2 * t + 0)) (by rw [show (2 : Int32) = nI 2 from rfl, pk_mul]; rfl) ?_
          refine g_istore k92_107 (by decide) rfl ?_
          have e1 : allN (sameV im (im 406) t) (i + 1) = true := by
            show (allN (sameV im (im 406) t) i && sameV im (im 406) t i) = _
            rw [b1]; show sameV im (im 406) t i = _; simp [sameV, d2]
          have e3 : (allN (alikK im (im 406) t) i && allN (alikV im (im 406) t i) 0) = allN (alikK im (im 406) t) i := Bool.and_true _
          have e4 : allN (alikK im (im 406) t) (i + 1) = (allN (alikK im (im 406) t) i && allN (alikV im (im 406) t i) nr) := by
            show (allN (alikK im (im 406) t) i && alikK im (im 406) t i) = _
            unfold alikK
            rw [hr, tn_nI (by omega)]
          have hin := l92i (k := i) (sa := bI (true)) (P := P) hO ht hlt hr hr2 (fun u => ?_) nr 0 (by omega)
          · rw [e3] at hin
            exact hin
          · refine g_iincv (y := nI (i + 1)) k92_187 rfl (by decide) (inc_1 i) rfl ?_
            refine g_goto k92_190 ?_
            have := ih (i + 1) (by omega) u
            rw [e1, e4] at this
            exact this

theorem gRest_off {im im' : Nat → Nat → Int32} (h : off9 im im') (t : Nat) : gRest im' (im' 406) t = gRest im (im 406) t := by
  unfold gRest
  have e1 : sameV im' (im' 406) t = sameV im (im 406) t := by funext k; unfold sameV; rw [h 385 (by decide), h 406 (by decide)]
  have e2 : alikK im' (im' 406) t = alikK im (im 406) t := by
    funext k
    unfold alikK
    have e3 : alikV im' (im' 406) t k = alikV im (im 406) t k := by funext j; unfold alikV; rw [h 389 (by decide), h 390 (by decide), h 391 (by decide), h 406 (by decide)]
    rw [e3, h 388 (by decide)]
  rw [e1, e2]
set_option maxRecDepth 20000 in
set_option maxHeartbeats 4000000 in
theorem c92 {LS : Nat} {rm : Nat → Nat → Option Nat} {im : Nat → Nat → Int32} {P : Option Value → (Nat → Nat → Int32) → Prop} {t nr : Nat} (hO : isMo LS rm) (ht : t < 60) (hpr : im 381 t = nI (tn (im 381 t))) (hp4 : tn (im 381 t) < 4) (hR : okR im (tn (im 381 t))) (hr : im 388 t = nI nr) (hr2 : nr ≤ 2) (h1 : ∀ im', off9 im im' → P (some (.int (gFlag im (im 406) (im 408) t))) im') : Gm LS rm 92 0 (en_in 92 [.ref 371, .int (nI t)]) [] im P := by
  show Gm LS rm 92 0 [.ref (371), .int (nI t), .long 0, .long 0, .long 0, .long 0] [] im P
  unfold gFlag at h1
  refine g_aload_n k92_0 rfl ?_
  refine g_getr k92_1 (sM371) (by decide) (mo_met hO) ?_
  refine g_iload_n k92_4 rfl ?_
  refine g_zalv k92_5 (sM408) (ht) (by decide) (rfl) ?_
  refine g_if_ne k92_6 (fun g => ?_) (fun g => ?_)
  · rw [if_pos g] at h1
    refine g_aload_n k92_28 rfl ?_
    refine g_getr k92_29 (sM371) (by decide) (mo_met hO) ?_
    refine g_iload_n k92_32 rfl ?_
    refine g_zalv k92_33 (sM408) (ht) (by decide) (rfl) ?_
    refine g_if_eq k92_34 (fun h9 => absurd h9 (g)) (fun _ => ?_)
    refine g_iconst (v := 4) k92_37 ic_4 ?_
    refine g_goto k92_38 ?_
    exact g_reti k92_42 rfl (h1 im (fun _ _ => rfl))
  · rw [if_neg (fun z => z g)] at h1
    refine g_aload_n k92_9 rfl ?_
    refine g_aload_n k92_10 rfl ?_
    refine g_getr k92_11 (sM371) (by decide) (mo_program hO) ?_
    refine g_iload_n k92_14 rfl ?_
    refine g_ialv (v := nI (tn (im 381 t))) k92_15 (sM381) (by omega) (by decide) (hpr) ?_
    refine g_aload_n k92_16 rfl ?_
    refine g_getr k92_17 (sM371) (by decide) (mo_endorsers hO) ?_
    refine g_iload_n k92_20 rfl ?_
    refine g_ialv k92_21 (sM383) (by omega) (by decide) (rfl) ?_
    refine g_inv2 k92_22 (sM371) rfl rfl (by decide) (Nat.le_of_ble_eq_true rfl) (c90 hO hp4 hR (fun im' hoff => ?_))
    have h8 : im' 408 = im 408 := hoff 408 (by decide)
    by_cases hf : fulV im (tn (im 381 t)) (im 383 t) = 0
    · rw [if_pos hf] at h1
      rw [hf]
      refine g_if_ne k92_25 (fun h9 => absurd (rfl) h9) (fun _ => ?_)
      refine g_aload_n k92_28 rfl ?_
      refine g_getr k92_29 (sM371) (by decide) (mo_met hO) ?_
      refine g_iload_n k92_32 rfl ?_
      refine g_zalv k92_33 (sM408) (ht) (by decide) (rfl) ?_
      refine g_if_eq k92_34 (fun _ => ?_) (fun h9 => absurd (by rw [h8]; exact g) h9)
      refine g_iconst (v := 1) k92_41 ic_1 ?_
      exact g_reti k92_42 rfl (h1 im' hoff)
    · rw [if_neg hf] at h1
      refine g_if_ne k92_25 (fun _ => ?_) (fun h9 => absurd h9 (hf))
      refine g_iconst (v := 1) k92_43 ic_1 ?_
      refine g_istore_n k92_44 (by decide) rfl ?_
      refine g_iconst (v := 1) k92_45 ic_1 ?_
      refine g_istore_n k92_46 (by decide) rfl ?_
      refine g_iconst (v := 0) k92_47 ic_0 ?_
      refine g_istore k92_48 (by decide) rfl ?_
      exact l92 hO ht (by rw [hoff 388 (by decide)]; exact hr) hr2 (by rw [gRest_off hoff]; exact h1 im' hoff) 16 0 (by omega) _

