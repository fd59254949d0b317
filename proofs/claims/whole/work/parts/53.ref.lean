def rdR (im : Nat → Nat → Int32) (t k : Nat) : Bool := decide (¬ im 385 (16 * t + k) < 0)
def wrR (im : Nat → Nat → Int32) (t k : Nat) : Bool := decide (0 < im 386 (16 * t + k))
def txR (im : Nat → Nat → Int32) (t q : Nat) : Int32 :=
  if q = 0 then im 381 t else if q = 1 then im 382 t else if q = 2 then im 383 t else if q = 3 then (if im 383 t = 0 then 0 else nI (cntB (rdR im t) 16)) else if q = 4 then im 388 t else if q = 5 then (if im 383 t = 0 then 0 else nI (cntB (wrR im t) 16)) else if im 384 t = 0 then 0 else 1
set_option maxRecDepth 20000 in
set_option maxHeartbeats 4000000 in
theorem l115b {LS : Nat} {rm : Nat → Nat → Option Nat} {im : Nat → Nat → Int32} {P : Option Value → (Nat → Nat → Int32) → Prop} {t q : Nat} {r w : Int32} {u : Value} (hO : isMo LS rm) (ht : t < 60) (hq : q < 7) (h1 : P (some (.int (if q = 0 then im 381 t else if q = 1 then im 382 t else if q = 2 then im 383 t else if q = 3 then r else if q = 4 then im 388 t else if q = 5 then w else if im 384 t = 0 then 0 else 1))) im) : Gm LS rm 115 98 [.ref 371, .int (nI t), .int (nI q), .int r, .int w, u] [] im P := by
  refine g_iload_n k115_98 rfl ?_
  refine g_iconst (v := 3) k115_99 ic_3 ?_
  refine g_icmp_ge k115_100 (fun c3 => ?_) (fun c3 => ?_)
  · have b3 : 3 ≤ q := (nI_leI (a := 3) (by decide) (by omega)).mp c3
    rw [if_neg (by omega), if_neg (by omega), if_neg (by omega)] at h1
    refine g_iload_n k115_137 rfl ?_
    refine g_iconst (v := 3) k115_138 ic_3 ?_
    refine g_icmp_ne k115_139 (fun d3 => ?_) (fun d3 => ?_)
    · have z3 : q ≠ 3 := fun z => d3 (by rw [z]; rfl)
      rw [if_neg z3] at h1
      refine g_iload_n k115_146 rfl ?_
      refine g_iconst (v := 4) k115_147 ic_4 ?_
      refine g_icmp_ne k115_148 (fun d4 => ?_) (fun d4 => ?_)
      · have z4 : q ≠ 4 := fun z => d4 (by rw [z]; rfl)
        rw [if_neg z4] at h1
        refine g_iload_n k115_160 rfl ?_
        refine g_iconst (v := 5) k115_161 ic_5 ?_
        refine g_icmp_ne k115_162 (fun d5 => ?_) (fun d5 => ?_)
        · have z5 : q ≠ 5 := fun z => d5 (by rw [z]; rfl)
          rw [if_neg z5] at h1
          refine g_aload_n k115_170 rfl ?_
          refine g_getr k115_171 (sM371) (by decide) (mo_closed hO) ?_
          refine g_iload_n k115_174 rfl ?_
          refine g_zalv k115_175 (sM384) (by omega) (by decide) (rfl) ?_
          refine g_if_eq k115_176 (fun d6 => ?_) (fun d6 => ?_)
          · rw [if_pos d6] at h1
            refine g_iconst (v := 0) k115_183 ic_0 ?_
            exact g_reti k115_184 rfl (h1)
          · rw [if_neg d6] at h1
            refine g_iconst (v := 1) k115_179 ic_1 ?_
            refine g_goto k115_180 ?_
            exact g_reti k115_184 rfl (h1)
        · have z5 : q = 5 := nI_inj (b := 5) d5 (by omega) (by decide)
          rw [if_pos z5] at h1
          refine g_iload k115_165 rfl ?_
          refine g_goto k115_167 ?_
          exact g_reti k115_184 rfl (h1)
      · have z4 : q = 4 := nI_inj (b := 4) d4 (by omega) (by decide)
        rw [if_pos z4] at h1
        refine g_aload_n k115_151 rfl ?_
        refine g_getr k115_152 (sM371) (by decide) (mo_ranges hO) ?_
        refine g_iload_n k115_155 rfl ?_
        refine g_ialv k115_156 (sM388) (by omega) (by decide) (rfl) ?_
        refine g_goto k115_157 ?_
        exact g_reti k115_184 rfl (h1)
    · have z3 : q = 3 := nI_inj (b := 3) d3 (by omega) (by decide)
      rw [if_pos z3] at h1
      refine g_iload_n k115_142 rfl ?_
      refine g_goto k115_143 ?_
      exact g_reti k115_184 rfl (h1)
  · have b3 : q < 3 := Nat.not_le.mp (fun z => c3 (nI_le (a := 3) z (by omega)))
    refine g_iload_n k115_103 rfl ?_
    refine g_if_ne k115_104 (fun d0 => ?_) (fun d0 => ?_)
    · have z0 : q ≠ 0 := fun z => d0 (by rw [z]; rfl)
      rw [if_neg z0] at h1
      refine g_iload_n k115_116 rfl ?_
      refine g_iconst (v := 1) k115_117 ic_1 ?_
      refine g_icmp_ne k115_118 (fun d1 => ?_) (fun d1 => ?_)
      · have z1 : q ≠ 1 := fun z => d1 (by rw [z]; rfl)
        rw [if_neg z1] at h1
        rw [if_pos (by omega)] at h1
        refine g_aload_n k115_130 rfl ?_
        refine g_getr k115_131 (sM371) (by decide) (mo_endorsers hO) ?_
        refine g_iload_n k115_134 rfl ?_
        refine g_ialv k115_135 (sM383) (by omega) (by decide) (rfl) ?_
        exact g_reti k115_136 rfl (h1)
      · have z1 : q = 1 := nI_inj (b := 1) d1 (by omega) (by decide)
        rw [if_pos z1] at h1
        refine g_aload_n k115_121 rfl ?_
        refine g_getr k115_122 (sM371) (by decide) (mo_argument hO) ?_
        refine g_iload_n k115_125 rfl ?_
        refine g_ialv k115_126 (sM382) (by omega) (by decide) (rfl) ?_
        refine g_goto k115_127 ?_
        exact g_reti k115_136 rfl (h1)
    · have z0 : q = 0 := nI_inj (b := 0) d0 (by omega) (by decide)
      rw [if_pos z0] at h1
      refine g_aload_n k115_107 rfl ?_
      refine g_getr k115_108 (sM371) (by decide) (mo_program hO) ?_
      refine g_iload_n k115_111 rfl ?_
      refine g_ialv k115_112 (sM381) (by omega) (by decide) (rfl) ?_
      refine g_goto k115_113 ?_
      exact g_reti k115_136 rfl (h1)

set_option maxRecDepth 20000 in
set_option maxHeartbeats 4000000 in
theorem l115a {LS : Nat} {rm : Nat → Nat → Option Nat} {im : Nat → Nat → Int32} {P : Option Value → (Nat → Nat → Int32) → Prop} {t q : Nat} (hO : isMo LS rm) (ht : t < 60) (hq : q < 7) (he : im 383 t ≠ 0) (h1 : P (some (.int (if q = 0 then im 381 t else if q = 1 then im 382 t else if q = 2 then im 383 t else if q = 3 then nI (cntB (rdR im t) 16) else if q = 4 then im 388 t else if q = 5 then nI (cntB (wrR im t) 16) else if im 384 t = 0 then 0 else 1))) im) : ∀ (n i : Nat), i + n = 16 → Gm LS rm 115 28 [.ref (371), .int (nI t), .int (nI q), .int (nI (cntB (rdR im t) i)), .int (nI (cntB (wrR im t) i)), .int (nI i)] [] (im) P := by
  intro n
  induction n with
  | zero =>
    intro i hi
    have hie : i = 16 := by omega
    subst hie
    refine g_iload k115_28 rfl ?_
    refine g_bipush (v := 16) k115_30 bp_16 ?_
    refine g_icmp_ge k115_32 (fun _ => ?_) (fun h9 => absurd (nI_le (Nat.le_refl _) (by decide)) h9)
    exact l115b hO ht hq h1
  | succ n ih =>
    intro i hi
    have hlt : i < 16 := by omega
    refine g_iload k115_28 rfl ?_
    refine g_bipush (v := 16) k115_30 bp_16 ?_
    refine g_icmp_ge k115_32 (fun h9 => absurd h9 (nI_ge hlt (by decide))) (fun _ => ?_)
    refine g_aload_n k115_35 rfl ?_
    refine g_getr k115_36 (sM371) (by decide) (mo_endorsers hO) ?_
    refine g_iload_n k115_39 rfl ?_
    refine g_ialv k115_40 (sM383) (by omega) (by decide) (rfl) ?_
    refine g_if_eq k115_41 (fun h9 => absurd h9 (he)) (fun _ => ?_)
    refine g_iload_n k115_44 rfl ?_
    refine g_aload_n k115_45 rfl ?_
    refine g_getr k115_46 (sM371) (by decide) (mo_read hO) ?_
    refine g_bipush (v := 16) k115_49 bp_16 ?_
    refine g_iload_n k115_51 rfl ?_
    refine g_imul k115_52 ?_
    refine g_iload k115_53 rfl ?_
    refine g_iadd k115_55 ?_
    refine g_top (y := nI (16 * t + i)) (by rw [show (16 : Int32) = nI 16 from rfl, pk_mul, nI_add]) ?_
    refine g_ialv k115_56 (sM385) (by omega) (by decide) (rfl) ?_
    refine g_if_lt k115_57 (fun g => ?_) (fun g => ?_)
    · refine g_iconst (v := 0) k115_64 ic_0 ?_
      refine g_iadd k115_65 ?_
      refine g_top (y := nI (cntB (rdR im t) i)) (by rw [show (0 : Int32) = nI 0 from rfl, nI_add, Nat.add_zero]) ?_
      have e1 : cntB (rdR im t) (i + 1) = cntB (rdR im t) i := congrArg (fun z => cntB (rdR im t) i + z) (if_neg (by simp only [rdR]; simp [g]))
      refine g_istore_n k115_66 (by decide) rfl ?_
      refine g_iload k115_67 rfl ?_
      refine g_aload_n k115_69 rfl ?_
      refine g_getr k115_70 (sM371) (by decide) (mo_wrote hO) ?_
      refine g_bipush (v := 16) k115_73 bp_16 ?_
      refine g_iload_n k115_75 rfl ?_
      refine g_imul k115_76 ?_
      refine g_iload k115_77 rfl ?_
      refine g_iadd k115_79 ?_
      refine g_top (y := nI (16 * t + i)) (by rw [show (16 : Int32) = nI 16 from rfl, pk_mul, nI_add]) ?_
      refine g_ialv k115_80 (sM386) (by omega) (by decide) (rfl) ?_
      refine g_if_le k115_81 (fun d => ?_) (fun d => ?_)
      · refine g_iconst (v := 0) k115_88 ic_0 ?_
        refine g_iadd k115_89 ?_
        refine g_top (y := nI (cntB (wrR im t) i)) (by rw [show (0 : Int32) = nI 0 from rfl, nI_add, Nat.add_zero]) ?_
        refine g_istore k115_90 (by decide) rfl ?_
        refine g_iincv (y := nI (i + 1)) k115_92 rfl (by decide) (inc_1 i) rfl ?_
        refine g_goto k115_95 ?_
        have e2 : cntB (wrR im t) (i + 1) = cntB (wrR im t) i := congrArg (fun z => cntB (wrR im t) i + z) (if_neg (by simp only [wrR]; simp [Int32.not_lt.mpr d]))
        have := ih (i + 1) (by omega)
        rw [e1, e2] at this
        exact this
      · refine g_iconst (v := 1) k115_84 ic_1 ?_
        refine g_goto k115_85 ?_
        refine g_iadd k115_89 ?_
        refine g_top (y := nI (cntB (wrR im t) i + 1)) (nI_1 _) ?_
        refine g_istore k115_90 (by decide) rfl ?_
        refine g_iincv (y := nI (i + 1)) k115_92 rfl (by decide) (inc_1 i) rfl ?_
        refine g_goto k115_95 ?_
        have e2 : cntB (wrR im t) (i + 1) = cntB (wrR im t) i + 1 := congrArg (fun z => cntB (wrR im t) i + z) (if_pos (by simp only [wrR]; simp [Int32.not_le.mp d]))
        have := ih (i + 1) (by omega)
        rw [e1, e2] at this
        exact this
    · refine g_iconst (v := 1) k115_60 ic_1 ?_
      refine g_goto k115_61 ?_
      refine g_iadd k115_65 ?_
      refine g_top (y := nI (cntB (rdR im t) i + 1)) (nI_1 _) ?_
      have e1 : cntB (rdR im t) (i + 1) = cntB (rdR im t) i + 1 := congrArg (fun z => cntB (rdR im t) i + z) (if_pos (by simp only [rdR]; simp [g]))
      refine g_istore_n k115_66 (by decide) rfl ?_
      refine g_iload k115_67 rfl ?_
      refine g_aload_n k115_69 rfl ?_
      refine g_getr k115_70 (sM371) (by decide) (mo_wrote hO) ?_
      refine g_bipush (v := 16) k115_73 bp_16 ?_
      refine g_iload_n k115_75 rfl ?_
      refine g_imul k115_76 ?_
      refine g_iload k115_77 rfl ?_
      refine g_iadd k115_79 ?_
      refine g_top (y := nI (16 * t + i)) (by rw [show (16 : Int32) = nI 16 from rfl, pk_mul, nI_add]) ?_
      refine g_ialv k115_80 (sM386) (by omega) (by decide) (rfl) ?_
      refine g_if_le k115_81 (fun d => ?_) (fun d => ?_)
      · refine g_iconst (v := 0) k115_88 ic_0 ?_
        refine g_iadd k115_89 ?_
        refine g_top (y := nI (cntB (wrR im t) i)) (by rw [show (0 : Int32) = nI 0 from rfl, nI_add, Nat.add_zero]) ?_
        refine g_istore k115_90 (by decide) rfl ?_
        refine g_iincv (y := nI (i + 1)) k115_92 rfl (by decide) (inc_1 i) rfl ?_
        refine g_goto k115_95 ?_
        have e2 : cntB (wrR im t) (i + 1) = cntB (wrR im t) i := congrArg (fun z => cntB (wrR im t) i + z) (if_neg (by simp only [wrR]; simp [Int32.not_lt.mpr d]))
        have := ih (i + 1) (by omega)
        rw [e1, e2] at this
        exact this
      · refine g_iconst (v := 1) k115_84 ic_1 ?_
        refine g_goto k115_85 ?_
        refine g_iadd k115_89 ?_
        refine g_top (y := nI (cntB (wrR im t) i + 1)) (nI_1 _) ?_
        refine g_istore k115_90 (by decide) rfl ?_
        refine g_iincv (y := nI (i + 1)) k115_92 rfl (by decide) (inc_1 i) rfl ?_
        refine g_goto k115_95 ?_
        have e2 : cntB (wrR im t) (i + 1) = cntB (wrR im t) i + 1 := congrArg (fun z => cntB (wrR im t) i + z) (if_pos (by simp only [wrR]; simp [Int32.not_le.mp d]))
        have := ih (i + 1) (by omega)
        rw [e1, e2] at this
        exact this

set_option maxRecDepth 20000 in
set_option maxHeartbeats 4000000 in
theorem y12 {LS : Nat} {rm : Nat → Nat → Option Nat} {im : Nat → Nat → Int32} {P : Option Value → (Nat → Nat → Int32) → Prop} {a1 a2 : Int32} {m : Nat} (hO : isMo LS rm) (hm : im 371 9 = nI m) (hm2 : m ≤ 60) (h1 : ∀ t q, t < m → q < 7 → a1 = nI t → a2 = nI q → P (some (.int (txR im t q))) im) (h0 : (∀ t q, ¬ (t < m ∧ q < 7 ∧ a1 = nI t ∧ a2 = nI q)) → P (some (.int (-1))) im) : Gm LS rm 115 0 (en_in 115 [.ref 371, .int a1, .int a2]) [] im P := by
  show Gm LS rm 115 0 [.ref (371), .int (a1), .int (a2), .long 0, .long 0, .long 0] [] im P
  refine g_aload_n k115_0 rfl ?_
  refine g_iload_n k115_1 rfl ?_
  refine g_inv1 k115_2 (sM371) rfl (by decide) (Nat.le_of_ble_eq_true rfl) (c101 hO hm hm2 (fun t ht e => ?_) (fun h => ?_))
  · subst e
    refine g_if_eq k115_5 (fun h9 => absurd h9 (by decide)) (fun _ => ?_)
    refine g_iload_n k115_8 rfl ?_
    refine g_iconst (v := 0) k115_9 ic_0 ?_
    refine g_bipush (v := 6) k115_10 bp_6 ?_
    refine g_invS3 k115_12 rfl rfl rfl (by decide) (Nat.le_of_ble_eq_true rfl) (c87n 6 (by decide) (fun q hq e2 => ?_) (fun h => ?_))
    · subst e2
      have h1 := h1 t q ht hq rfl rfl
      unfold txR at h1
      refine g_if_ne k115_15 (fun _ => ?_) (fun h9 => absurd h9 (by decide))
      refine g_iconst (v := 0) k115_20 ic_0 ?_
      refine g_istore_n k115_21 (by decide) rfl ?_
      refine g_iconst (v := 0) k115_22 ic_0 ?_
      refine g_istore k115_23 (by decide) rfl ?_
      refine g_iconst (v := 0) k115_25 ic_0 ?_
      refine g_istore k115_26 (by decide) rfl ?_
      by_cases he : im 383 t = 0
      · simp only [if_pos he] at h1
        refine g_iload k115_28 rfl ?_
        refine g_bipush (v := 16) k115_30 bp_16 ?_
        refine g_icmp_ge k115_32 (fun h9 => absurd h9 (by decide)) (fun _ => ?_)
        refine g_aload_n k115_35 rfl ?_
        refine g_getr k115_36 (sM371) (by decide) (mo_endorsers hO) ?_
        refine g_iload_n k115_39 rfl ?_
        refine g_ialv k115_40 (sM383) (by omega) (by decide) (rfl) ?_
        refine g_if_eq k115_41 (fun _ => ?_) (fun h9 => absurd (he) h9)
        exact l115b hO (by omega) hq h1
      · simp only [if_neg he] at h1
        exact l115a hO (by omega) hq he h1 16 0 (by omega)
    · refine g_if_ne k115_15 (fun h9 => absurd (by decide) h9) (fun _ => ?_)
      refine g_iconst (v := -1) k115_18 ic_m1 ?_
      exact g_reti k115_19 rfl (h0 (fun t2 q2 k2 => w_out (by decide) k2.2.1 h k2.2.2.2))
  · refine g_if_eq k115_5 (fun _ => ?_) (fun h9 => absurd (by decide) h9)
    refine g_iconst (v := -1) k115_18 ic_m1 ?_
    exact g_reti k115_19 rfl (h0 (fun t2 q2 k2 => w_out (by omega) k2.1 h k2.2.2.1))

def rcA (im : Nat → Nat → Int32) (c i : Nat) : Nat → Int32 := fun k => if 4 * c ≤ k ∧ k < 4 * c + i then im 393 (k - 4 * c) else im 394 k
def rcB (f : Nat → Int32) (n i : Nat) : Nat → Int32 := fun k => if k < i then f (k + n) else f k
theorem rcA_0 {im : Nat → Nat → Int32} {c : Nat} : rcA im c 0 = im 394 := by funext k; unfold rcA; rw [if_neg (by omega)]
theorem rcB_0 {f : Nat → Int32} {n : Nat} : rcB f n 0 = f := by funext k; unfold rcB; rw [if_neg (by omega)]
theorem rcA_s {im : Nat → Nat → Int32} {c i : Nat} : (fun k => if k = 4 * c + i then im 393 i else rcA im c i k) = rcA im c (i + 1) := by
  funext k
  unfold rcA
  by_cases h : k = 4 * c + i
  · rw [if_pos h, if_pos (by omega)]; congr 1; omega
  · rw [if_neg h]
    by_cases h2 : 4 * c ≤ k ∧ k < 4 * c + i
    · rw [if_pos h2, if_pos (by omega)]
    · rw [if_neg h2, if_neg (by omega)]
theorem rcB_s {f : Nat → Int32} {n i : Nat} : (fun k => if k = i then f (i + n) else rcB f n i k) = rcB f n (i + 1) := by
  funext k
  unfold rcB
  by_cases h : k = i
  · rw [if_pos h, if_pos (by omega)]; congr 1; omega
  · rw [if_neg h]
    by_cases h2 : k < i
    · rw [if_pos h2, if_pos (by omega)]
    · rw [if_neg h2, if_neg (by omega)]
def rc2 (im : Nat → Nat → Int32) (c n w : Nat) : Nat → Nat → Int32 := en_ur (en_ur im 394 (rcA im c n)) 393 (rcB (im 393) n (w - n))
def rc3 (im : Nat → Nat → Int32) (o c n w l : Nat) : Nat → Nat → Int32 := en_u2 (en_u2 (en_u2 (en_u2 (en_u2 (en_u2 (rc2 im c n w) 371 25 (nI (w - n))) 395 c (nI n)) 396 c (im 398 o)) 399 (40 * o + l) (nI c)) 400 o (nI (l + 1))) 371 26 (nI (c + 1))
set_option maxRecDepth 20000 in
set_option maxHeartbeats 4000000 in
theorem l110b {LS : Nat} {rm : Nat → Nat → Option Nat} {im : Nat → Nat → Int32} {P : Option Value → (Nat → Nat → Int32) → Prop} {o c n w l : Nat} (hO : isMo LS rm) (ho : o < 3) (hc : im 371 26 = nI c) (hc2 : c < 60) (hw : im 371 25 = nI w) (hw2 : w ≤ 20) (hn : n ≤ w) (hn0 : 0 < n) (hn4 : n ≤ 4) (hl : im 400 o = nI l) (hl2 : l < 40) (h1 : P (some (.int (nI n))) (rc3 im o c n w l)) : ∀ (rr i : Nat), i + rr = w - n → Gm LS rm 110 96 [.ref (371), .int (nI o), .int (nI n), .int (nI (n + i))] [] (en_ur (en_ur im 394 (rcA im c n)) 393 (rcB (im 393) n (i))) P := by
  intro rr
  induction rr with
  | zero =>
    intro i hi
    have hie : i = w - n := by omega
    subst hie
    refine g_iload_n k110_96 rfl ?_
    refine g_aload_n k110_97 rfl ?_
    refine g_getv (v := nI w) k110_98 (sM371) (by decide) (by rw [ur_ne (by decide), ur_ne (by decide)]; exact hw) ?_
    refine g_icmp_ge k110_101 (fun _ => ?_) (fun h9 => absurd (nI_le (by omega) (by omega)) h9)
    show Gm LS rm 110 124 _ [] (rc2 im c n w) P
    have q26 : rc2 im c n w 371 = im 371 := by unfold rc2; rw [ur_ne (by decide), ur_ne (by decide)]
    have q398 : rc2 im c n w 398 = im 398 := by unfold rc2; rw [ur_ne (by decide), ur_ne (by decide)]
    have q400 : rc2 im c n w 400 = im 400 := by unfold rc2; rw [ur_ne (by decide), ur_ne (by decide)]
    refine g_aload_n k110_124 rfl ?_
    refine g_dup k110_125 rfl ?_
    refine g_getv (v := nI w) k110_126 (sM371) (by decide) (by rw [q26]; exact hw) ?_
    refine g_iload_n k110_129 rfl ?_
    refine g_isub k110_130 ?_
    refine g_top (y := nI (w - n)) (pk_sub hn) ?_
    refine g_puti k110_131 (by decide) (sM371) (by decide) ?_
    refine g_aload_n k110_134 rfl ?_
    refine g_getr k110_135 (sM371) (by decide) (mo_size hO) ?_
    refine g_aload_n k110_138 rfl ?_
    refine g_getv (v := nI c) k110_139 (sM371) (by decide) (by rw [u2_ne (by omega), q26]; exact hc) ?_
    refine g_iload_n k110_142 rfl ?_
    refine g_iasv k110_143 (sM395) (hc2) (by decide) ?_
    refine g_aload_n k110_144 rfl ?_
    refine g_getr k110_145 (sM371) (by decide) (mo_cutIn hO) ?_
    refine g_aload_n k110_148 rfl ?_
    refine g_getv (v := nI c) k110_149 (sM371) (by decide) (by rw [u2_ne (by omega), u2_ne (by omega), q26]; exact hc) ?_
    refine g_aload_n k110_152 rfl ?_
    refine g_getr k110_153 (sM371) (by decide) (mo_term hO) ?_
    refine g_iload_n k110_156 rfl ?_
    refine g_ialv (v := im 398 o) k110_157 (sM398) (ho) (by decide) (by rw [u2_ne (by omega), u2_ne (by omega), q398]) ?_
    refine g_iasv k110_158 (sM396) (hc2) (by decide) ?_
    refine g_aload_n k110_159 rfl ?_
    refine g_getr k110_160 (sM371) (by decide) (mo_logs hO) ?_
    refine g_bipush (v := 40) k110_163 bp_40 ?_
    refine g_iload_n k110_165 rfl ?_
    refine g_imul k110_166 ?_
    refine g_aload_n k110_167 rfl ?_
    refine g_getr k110_168 (sM371) (by decide) (mo_logged hO) ?_
    refine g_iload_n k110_171 rfl ?_
    refine g_ialv (v := nI l) k110_172 (sM400) (ho) (by decide) (by rw [u2_ne (by omega), u2_ne (by omega), u2_ne (by omega), q400]; exact hl) ?_
    refine g_iadd k110_173 ?_
    refine g_top (y := nI (40 * o + l)) (by rw [show (40 : Int32) = nI 40 from rfl, pk_mul, nI_add]) ?_
    refine g_aload_n k110_174 rfl ?_
    refine g_getv (v := nI c) k110_175 (sM371) (by decide) (by rw [u2_ne (by omega), u2_ne (by omega), u2_ne (by omega), q26]; exact hc) ?_
    refine g_iasv k110_178 (sM399) (by omega) (by decide) ?_
    refine g_aload_n k110_179 rfl ?_
    refine g_getr k110_180 (sM371) (by decide) (mo_logged hO) ?_
    refine g_iload_n k110_183 rfl ?_
    refine g_dup2 k110_184 rfl rfl ?_
    refine g_ialv (v := nI l) k110_185 (sM400) (ho) (by decide) (by rw [u2_ne (by omega), u2_ne (by omega), u2_ne (by omega), u2_ne (by omega), q400]; exact hl) ?_
    refine g_iconst (v := 1) k110_186 ic_1 ?_
    refine g_iadd k110_187 ?_
    refine g_top (y := nI (l + 1)) (nI_1 l) ?_
    refine g_iasv k110_188 (sM400) (ho) (by decide) ?_
    refine g_aload_n k110_189 rfl ?_
    refine g_dup k110_190 rfl ?_
    refine g_getv (v := nI c) k110_191 (sM371) (by decide) (by rw [u2_ne (by omega), u2_ne (by omega), u2_ne (by omega), u2_ne (by omega), u2_ne (by omega), q26]; exact hc) ?_
    refine g_iconst (v := 1) k110_194 ic_1 ?_
    refine g_iadd k110_195 ?_
    refine g_top (y := nI (c + 1)) (nI_1 c) ?_
    refine g_puti k110_196 (by decide) (sM371) (by decide) ?_
    refine g_iload_n k110_199 rfl ?_
    exact g_reti k110_200 rfl (h1)
  | succ rr ih =>
    intro i hi
    have hlt : i < w - n := by omega
    refine g_iload_n k110_96 rfl ?_
    refine g_aload_n k110_97 rfl ?_
    refine g_getv (v := nI w) k110_98 (sM371) (by decide) (by rw [ur_ne (by decide), ur_ne (by decide)]; exact hw) ?_
    refine g_icmp_ge k110_101 (fun h9 => absurd h9 (nI_ge (by omega) (by omega))) (fun _ => ?_)
    have h393 : (en_ur (en_ur im 394 (rcA im c n)) 393 (rcB (im 393) n i)) 393 (n + i) = im 393 (i + n) := by rw [ur_eq]; unfold rcB; rw [if_neg (by omega), Nat.add_comm]
    refine g_aload_n k110_104 rfl ?_
    refine g_getr k110_105 (sM371) (by decide) (mo_queue hO) ?_
    refine g_iload_n k110_108 rfl ?_
    refine g_iload_n k110_109 rfl ?_
    refine g_isub k110_110 ?_
    refine g_top (y := nI i) (by rw [pk_sub (Nat.le_add_right n i), Nat.add_sub_cancel_left]) ?_
    refine g_aload_n k110_111 rfl ?_
    refine g_getr k110_112 (sM371) (by decide) (mo_queue hO) ?_
    refine g_iload_n k110_115 rfl ?_
    refine g_ialv (v := im 393 (i + n)) k110_116 (sM393) (by omega) (by decide) (h393) ?_
    refine g_iasv k110_117 (sM393) (by omega) (by decide) ?_
    rw [ur_u2, rcB_s]
    refine g_iincv (y := nI (n + (i + 1))) k110_118 rfl (by decide) (inc_1 _) rfl ?_
    refine g_goto k110_121 ?_
    exact ih (i + 1) (by omega)

set_option maxRecDepth 20000 in
set_option maxHeartbeats 4000000 in
theorem l110a {LS : Nat} {rm : Nat → Nat → Option Nat} {im : Nat → Nat → Int32} {P : Option Value → (Nat → Nat → Int32) → Prop} {o c n w l : Nat} (hO : isMo LS rm) (ho : o < 3) (hc : im 371 26 = nI c) (hc2 : c < 60) (hw : im 371 25 = nI w) (hw2 : w ≤ 20) (hn : n ≤ w) (hn0 : 0 < n) (hn4 : n ≤ 4) (hl : im 400 o = nI l) (hl2 : l < 40) (h1 : P (some (.int (nI n))) (rc3 im o c n w l)) : ∀ (rr i : Nat), i + rr = n → Gm LS rm 110 64 [.ref (371), .int (nI o), .int (nI n), .int (nI i)] [] (en_ur im 394 (rcA im c (i))) P := by
  intro rr
  induction rr with
  | zero =>
    intro i hi
    have hie : n = i := by omega
    subst hie
    refine g_iload_n k110_64 rfl ?_
    refine g_iload_n k110_65 rfl ?_
    refine g_icmp_ge k110_66 (fun _ => ?_) (fun h9 => absurd (nI_le (Nat.le_refl _) (by omega)) h9)
    refine g_iload_n k110_94 rfl ?_
    refine g_istore_n k110_95 (by decide) rfl ?_
    have := l110b hO ho hc hc2 hw hw2 hn hn0 hn4 hl hl2 h1 (w - n) 0 (by omega)
    rw [rcB_0] at this
    have e9 : en_ur (en_ur im 394 (rcA im c n)) 393 (im 393) = en_ur im 394 (rcA im c n) := by
      have := ur_self (f := en_ur im 394 (rcA im c n)) (b := 393)
      rw [ur_ne (by decide)] at this
      exact this
    rw [e9] at this
    exact this
  | succ rr ih =>
    intro i hi
    have hlt : i < n := by omega
    refine g_iload_n k110_64 rfl ?_
    refine g_iload_n k110_65 rfl ?_
    refine g_icmp_ge k110_66 (fun h9 => absurd h9 (nI_ge hlt (by omega))) (fun _ => ?_)
    refine g_aload_n k110_69 rfl ?_
    refine g_getr k110_70 (sM371) (by decide) (mo_block hO) ?_
    refine g_iconst (v := 4) k110_73 ic_4 ?_
    refine g_aload_n k110_74 rfl ?_
    refine g_getv (v := nI c) k110_75 (sM371) (by decide) (by rw [ur_ne (by decide)]; exact hc) ?_
    refine g_imul k110_78 ?_
    refine g_iload_n k110_79 rfl ?_
    refine g_iadd k110_80 ?_
    refine g_top (y := nI (4 * c + i)) (by rw [show (4 : Int32) = nI 4 from rfl, pk_mul, nI_add]) ?_
    refine g_aload_n k110_81 rfl ?_
    refine g_getr k110_82 (sM371) (by decide) (mo_queue hO) ?_
    refine g_iload_n k110_85 rfl ?_
    refine g_ialv (v := im 393 i) k110_86 (sM393) (by omega) (by decide) (by rw [ur_ne (by decide)]) ?_
    refine g_iasv k110_87 (sM394) (by omega) (by decide) ?_
    rw [ur_u2, rcA_s]
    refine g_iincv (y := nI (i + 1)) k110_88 rfl (by decide) (inc_1 i) rfl ?_
    refine g_goto k110_91 ?_
    exact ih (i + 1) (by omega)

set_option maxRecDepth 20000 in
set_option maxHeartbeats 4000000 in
theorem y7 {LS : Nat} {rm : Nat → Nat → Option Nat} {im : Nat → Nat → Int32} {P : Option Value → (Nat → Nat → Int32) → Prop} {a1 : Int32} {w c : Nat} {n : Nat → Nat} (hO : isMo LS rm) (hw : im 371 25 = nI w) (hw2 : w ≤ 20) (hc : im 371 26 = nI c) (hc2 : c ≤ 60) (hn : ∀ o, o < 3 → im 400 o = nI (n o) ∧ n o ≤ 40) (h1 : ∀ o, o < 3 → a1 = nI o → im 371 34 = nI o → 0 < w → c < 60 → n o < 40 → P (some (.int (nI (min w 4)))) (rc3 im o c (min w 4) w (n o))) (h0 : (∀ o, ¬ (o < 3 ∧ a1 = nI o ∧ im 371 34 = nI o ∧ 0 < w ∧ c < 60 ∧ n o < 40)) → P (some (.int (-1))) im) : Gm LS rm 110 0 (en_in 110 [.ref 371, .int a1]) [] im P := by
  show Gm LS rm 110 0 [.ref (371), .int (a1), .long 0, .long 0] [] im P
  refine g_aload_n k110_0 rfl ?_
  refine g_iload_n k110_1 rfl ?_
  refine g_inv1 k110_2 (sM371) rfl (by decide) (Nat.le_of_ble_eq_true rfl) (c106 (fun o ho e => ?_) (fun h => ?_))
  · subst e
    obtain ⟨y1, y2⟩ := hn o ho
    refine g_if_eq k110_5 (fun h9 => absurd h9 (by decide)) (fun _ => ?_)
    refine g_iload_n k110_8 rfl ?_
    refine g_aload_n k110_9 rfl ?_
    refine g_geti k110_10 (sM371) (by decide) ?_
    refine g_icmp_ne k110_13 (fun g => ?_) (fun g => ?_)
    · refine g_iconst (v := -1) k110_43 ic_m1 ?_
      exact g_reti k110_44 rfl (h0 (fun o2 k2 => by obtain ⟨q1, q2, q3, q4, q5, q6⟩ := k2; have z := nI_inj q2 (by omega) (by omega); subst z; exact g q3.symm))
    · refine g_aload_n k110_16 rfl ?_
      refine g_getv (v := nI w) k110_17 (sM371) (by decide) (hw) ?_
      refine g_if_eq k110_20 (fun d => ?_) (fun d => ?_)
      · refine g_iconst (v := -1) k110_43 ic_m1 ?_
        exact g_reti k110_44 rfl (h0 (fun o2 k2 => nI_ne0 k2.2.2.2.1 (by omega) d))
      · have w0 : 0 < w := Nat.pos_of_ne_zero (fun z => d (by rw [z]; rfl))
        refine g_aload_n k110_23 rfl ?_
        refine g_getr k110_24 (sM371) (by decide) (mo_logged hO) ?_
        refine g_iload_n k110_27 rfl ?_
        refine g_ialv (v := nI (n o)) k110_28 (sM400) (ho) (by decide) (y1) ?_
        refine g_bipush (v := 40) k110_29 bp_40 ?_
        refine g_icmp_eq k110_31 (fun j => ?_) (fun j => ?_)
        · refine g_iconst (v := -1) k110_43 ic_m1 ?_
          exact g_reti k110_44 rfl (h0 (fun o2 k2 => by obtain ⟨q1, q2, q3, q4, q5, q6⟩ := k2; have z := nI_inj q2 (by omega) (by omega); subst z; have := nI_inj (b := 40) j (by omega) (by decide); omega))
        · have l40 : n o < 40 := by have : n o ≠ 40 := fun z => j (by rw [z]; rfl); omega
          refine g_aload_n k110_34 rfl ?_
          refine g_getv (v := nI c) k110_35 (sM371) (by decide) (hc) ?_
          refine g_bipush (v := 60) k110_38 bp_60 ?_
          refine g_icmp_ne k110_40 (fun m => ?_) (fun m => ?_)
          · have c60 : c < 60 := by have : c ≠ 60 := fun z => m (by rw [z]; rfl); omega
            have h1 := h1 o ho rfl g.symm w0 c60 l40
            refine g_aload_n k110_45 rfl ?_
            refine g_getv (v := nI w) k110_46 (sM371) (by decide) (hw) ?_
            refine g_iconst (v := 4) k110_49 ic_4 ?_
            refine g_icmp_ge k110_50 (fun r => ?_) (fun r => ?_)
            · have e4 : min w 4 = 4 := Nat.min_eq_right ((nI_leI (a := 4) (by decide) (by omega)).mp r)
              refine g_iconst (v := 4) k110_60 ic_4 ?_
              refine g_top (y := nI (min w 4)) (by rw [e4]; rfl) ?_
              refine g_istore_n k110_61 (by decide) rfl ?_
              refine g_iconst (v := 0) k110_62 ic_0 ?_
              refine g_istore_n k110_63 (by decide) rfl ?_
              have := l110a hO ho hc c60 hw hw2 (Nat.min_le_left _ _) (by omega) (Nat.min_le_right _ _) y1 l40 h1 (min w 4) 0 (by omega)
              rw [rcA_0, ur_self] at this
              exact this
            · have e4 : min w 4 = w := Nat.min_eq_left (Nat.le_of_lt (Nat.not_le.mp (fun z => r (nI_le (a := 4) z (by omega)))))
              refine g_aload_n k110_53 rfl ?_
              refine g_getv (v := nI w) k110_54 (sM371) (by decide) (hw) ?_
              refine g_goto k110_57 ?_
              refine g_top (y := nI (min w 4)) (by rw [e4]) ?_
              refine g_istore_n k110_61 (by decide) rfl ?_
              refine g_iconst (v := 0) k110_62 ic_0 ?_
              refine g_istore_n k110_63 (by decide) rfl ?_
              have := l110a hO ho hc c60 hw hw2 (Nat.min_le_left _ _) (by omega) (Nat.min_le_right _ _) y1 l40 h1 (min w 4) 0 (by omega)
              rw [rcA_0, ur_self] at this
              exact this
          · refine g_iconst (v := -1) k110_43 ic_m1 ?_
            exact g_reti k110_44 rfl (h0 (fun o2 k2 => by have := nI_inj (b := 60) m (by omega) (by decide); omega))
  · refine g_if_eq k110_5 (fun _ => ?_) (fun h9 => absurd (by decide) h9)
    refine g_iconst (v := -1) k110_43 ic_m1 ?_
    exact g_reti k110_44 rfl (h0 (fun o2 k2 => w_out (by decide) k2.1 h k2.2.1))

