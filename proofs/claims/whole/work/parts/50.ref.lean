/-! the reference: its arrays by address -/
def moAl : List Nat := [372, 373, 374, 375, 376, 377, 378, 379, 380, 0, 381, 382, 383, 384, 385, 386, 387, 388, 389, 390, 391, 392, 0, 0, 393, 0, 0, 394, 395, 396, 397, 398, 399, 400, 0, 401, 0, 402, 403, 404, 405, 406, 407, 408, 409]
def isMo (LS : Nat) (rm : Nat → Nat → Option Nat) : Prop := ∀ k, k < 45 → moAl.getD k 0 ≠ 0 → rm 371 k = some (moAl.getD k 0)
theorem mo_length {LS : Nat} {rm : Nat → Nat → Option Nat} (h : isMo LS rm) : rm 371 0 = some 372 := h 0 (by decide) (by decide)
theorem mo_op {LS : Nat} {rm : Nat → Nat → Option Nat} (h : isMo LS rm) : rm 371 1 = some 373 := h 1 (by decide) (by decide)
theorem mo_operand {LS : Nat} {rm : Nat → Nat → Option Nat} (h : isMo LS rm) : rm 371 2 = some 374 := h 2 (by decide) (by decide)
theorem mo_rules {LS : Nat} {rm : Nat → Nat → Option Nat} (h : isMo LS rm) : rm 371 3 = some 375 := h 3 (by decide) (by decide)
theorem mo_ruleK {LS : Nat} {rm : Nat → Nat → Option Nat} (h : isMo LS rm) : rm 371 4 = some 376 := h 4 (by decide) (by decide)
theorem mo_ruleN {LS : Nat} {rm : Nat → Nat → Option Nat} (h : isMo LS rm) : rm 371 5 = some 377 := h 5 (by decide) (by decide)
theorem mo_part {LS : Nat} {rm : Nat → Nat → Option Nat} (h : isMo LS rm) : rm 371 6 = some 378 := h 6 (by decide) (by decide)
theorem mo_pile {LS : Nat} {rm : Nat → Nat → Option Nat} (h : isMo LS rm) : rm 371 7 = some 379 := h 7 (by decide) (by decide)
theorem mo_high {LS : Nat} {rm : Nat → Nat → Option Nat} (h : isMo LS rm) : rm 371 8 = some 380 := h 8 (by decide) (by decide)
theorem mo_program {LS : Nat} {rm : Nat → Nat → Option Nat} (h : isMo LS rm) : rm 371 10 = some 381 := h 10 (by decide) (by decide)
theorem mo_argument {LS : Nat} {rm : Nat → Nat → Option Nat} (h : isMo LS rm) : rm 371 11 = some 382 := h 11 (by decide) (by decide)
theorem mo_endorsers {LS : Nat} {rm : Nat → Nat → Option Nat} (h : isMo LS rm) : rm 371 12 = some 383 := h 12 (by decide) (by decide)
theorem mo_closed {LS : Nat} {rm : Nat → Nat → Option Nat} (h : isMo LS rm) : rm 371 13 = some 384 := h 13 (by decide) (by decide)
theorem mo_read {LS : Nat} {rm : Nat → Nat → Option Nat} (h : isMo LS rm) : rm 371 14 = some 385 := h 14 (by decide) (by decide)
theorem mo_wrote {LS : Nat} {rm : Nat → Nat → Option Nat} (h : isMo LS rm) : rm 371 15 = some 386 := h 15 (by decide) (by decide)
theorem mo_written {LS : Nat} {rm : Nat → Nat → Option Nat} (h : isMo LS rm) : rm 371 16 = some 387 := h 16 (by decide) (by decide)
theorem mo_ranges {LS : Nat} {rm : Nat → Nat → Option Nat} (h : isMo LS rm) : rm 371 17 = some 388 := h 17 (by decide) (by decide)
theorem mo_from {LS : Nat} {rm : Nat → Nat → Option Nat} (h : isMo LS rm) : rm 371 18 = some 389 := h 18 (by decide) (by decide)
theorem mo_to {LS : Nat} {rm : Nat → Nat → Option Nat} (h : isMo LS rm) : rm 371 19 = some 390 := h 19 (by decide) (by decide)
theorem mo_seen {LS : Nat} {rm : Nat → Nat → Option Nat} (h : isMo LS rm) : rm 371 20 = some 391 := h 20 (by decide) (by decide)
theorem mo_stack {LS : Nat} {rm : Nat → Nat → Option Nat} (h : isMo LS rm) : rm 371 21 = some 392 := h 21 (by decide) (by decide)
theorem mo_queue {LS : Nat} {rm : Nat → Nat → Option Nat} (h : isMo LS rm) : rm 371 24 = some 393 := h 24 (by decide) (by decide)
theorem mo_block {LS : Nat} {rm : Nat → Nat → Option Nat} (h : isMo LS rm) : rm 371 27 = some 394 := h 27 (by decide) (by decide)
theorem mo_size {LS : Nat} {rm : Nat → Nat → Option Nat} (h : isMo LS rm) : rm 371 28 = some 395 := h 28 (by decide) (by decide)
theorem mo_cutIn {LS : Nat} {rm : Nat → Nat → Option Nat} (h : isMo LS rm) : rm 371 29 = some 396 := h 29 (by decide) (by decide)
theorem mo_off {LS : Nat} {rm : Nat → Nat → Option Nat} (h : isMo LS rm) : rm 371 30 = some 397 := h 30 (by decide) (by decide)
theorem mo_term {LS : Nat} {rm : Nat → Nat → Option Nat} (h : isMo LS rm) : rm 371 31 = some 398 := h 31 (by decide) (by decide)
theorem mo_logs {LS : Nat} {rm : Nat → Nat → Option Nat} (h : isMo LS rm) : rm 371 32 = some 399 := h 32 (by decide) (by decide)
theorem mo_logged {LS : Nat} {rm : Nat → Nat → Option Nat} (h : isMo LS rm) : rm 371 33 = some 400 := h 33 (by decide) (by decide)
theorem mo_chained {LS : Nat} {rm : Nat → Nat → Option Nat} (h : isMo LS rm) : rm 371 35 = some 401 := h 35 (by decide) (by decide)
theorem mo_down {LS : Nat} {rm : Nat → Nat → Option Nat} (h : isMo LS rm) : rm 371 37 = some 402 := h 37 (by decide) (by decide)
theorem mo_stored {LS : Nat} {rm : Nat → Nat → Option Nat} (h : isMo LS rm) : rm 371 38 = some 403 := h 38 (by decide) (by decide)
theorem mo_saved {LS : Nat} {rm : Nat → Nat → Option Nat} (h : isMo LS rm) : rm 371 39 = some 404 := h 39 (by decide) (by decide)
theorem mo_value {LS : Nat} {rm : Nat → Nat → Option Nat} (h : isMo LS rm) : rm 371 40 = some 405 := h 40 (by decide) (by decide)
theorem mo_version {LS : Nat} {rm : Nat → Nat → Option Nat} (h : isMo LS rm) : rm 371 41 = some 406 := h 41 (by decide) (by decide)
theorem mo_flags {LS : Nat} {rm : Nat → Nat → Option Nat} (h : isMo LS rm) : rm 371 42 = some 407 := h 42 (by decide) (by decide)
theorem mo_met {LS : Nat} {rm : Nat → Nat → Option Nat} (h : isMo LS rm) : rm 371 43 = some 408 := h 43 (by decide) (by decide)
theorem mo_fulfilled {LS : Nat} {rm : Nat → Nat → Option Nat} (h : isMo LS rm) : rm 371 44 = some 409 := h 44 (by decide) (by decide)
theorem sM371 {LS : Nat} : (SH LS)[371]? = some (10, 45) := SH_at (by decide +kernel)
theorem sM372 {LS : Nat} : (SH LS)[372]? = some (100, 4) := SH_at (by decide +kernel)
theorem sM373 {LS : Nat} : (SH LS)[373]? = some (100, 48) := SH_at (by decide +kernel)
theorem sM374 {LS : Nat} : (SH LS)[374]? = some (100, 48) := SH_at (by decide +kernel)
theorem sM375 {LS : Nat} : (SH LS)[375]? = some (100, 4) := SH_at (by decide +kernel)
theorem sM376 {LS : Nat} : (SH LS)[376]? = some (100, 36) := SH_at (by decide +kernel)
theorem sM377 {LS : Nat} : (SH LS)[377]? = some (100, 36) := SH_at (by decide +kernel)
theorem sM378 {LS : Nat} : (SH LS)[378]? = some (100, 144) := SH_at (by decide +kernel)
theorem sM379 {LS : Nat} : (SH LS)[379]? = some (100, 36) := SH_at (by decide +kernel)
theorem sM380 {LS : Nat} : (SH LS)[380]? = some (100, 4) := SH_at (by decide +kernel)
theorem sM381 {LS : Nat} : (SH LS)[381]? = some (100, 61) := SH_at (by decide +kernel)
theorem sM382 {LS : Nat} : (SH LS)[382]? = some (100, 61) := SH_at (by decide +kernel)
theorem sM383 {LS : Nat} : (SH LS)[383]? = some (100, 61) := SH_at (by decide +kernel)
theorem sM384 {LS : Nat} : (SH LS)[384]? = some (101, 61) := SH_at (by decide +kernel)
theorem sM385 {LS : Nat} : (SH LS)[385]? = some (100, 976) := SH_at (by decide +kernel)
theorem sM386 {LS : Nat} : (SH LS)[386]? = some (100, 976) := SH_at (by decide +kernel)
theorem sM387 {LS : Nat} : (SH LS)[387]? = some (100, 976) := SH_at (by decide +kernel)
theorem sM388 {LS : Nat} : (SH LS)[388]? = some (100, 61) := SH_at (by decide +kernel)
theorem sM389 {LS : Nat} : (SH LS)[389]? = some (100, 122) := SH_at (by decide +kernel)
theorem sM390 {LS : Nat} : (SH LS)[390]? = some (100, 122) := SH_at (by decide +kernel)
theorem sM391 {LS : Nat} : (SH LS)[391]? = some (100, 1952) := SH_at (by decide +kernel)
theorem sM392 {LS : Nat} : (SH LS)[392]? = some (100, 8) := SH_at (by decide +kernel)
theorem sM393 {LS : Nat} : (SH LS)[393]? = some (100, 20) := SH_at (by decide +kernel)
theorem sM394 {LS : Nat} : (SH LS)[394]? = some (100, 240) := SH_at (by decide +kernel)
theorem sM395 {LS : Nat} : (SH LS)[395]? = some (100, 60) := SH_at (by decide +kernel)
theorem sM396 {LS : Nat} : (SH LS)[396]? = some (100, 60) := SH_at (by decide +kernel)
theorem sM397 {LS : Nat} : (SH LS)[397]? = some (101, 3) := SH_at (by decide +kernel)
theorem sM398 {LS : Nat} : (SH LS)[398]? = some (100, 3) := SH_at (by decide +kernel)
theorem sM399 {LS : Nat} : (SH LS)[399]? = some (100, 120) := SH_at (by decide +kernel)
theorem sM400 {LS : Nat} : (SH LS)[400]? = some (100, 3) := SH_at (by decide +kernel)
theorem sM401 {LS : Nat} : (SH LS)[401]? = some (100, 40) := SH_at (by decide +kernel)
theorem sM402 {LS : Nat} : (SH LS)[402]? = some (101, 4) := SH_at (by decide +kernel)
theorem sM403 {LS : Nat} : (SH LS)[403]? = some (100, 4) := SH_at (by decide +kernel)
theorem sM404 {LS : Nat} : (SH LS)[404]? = some (100, 4) := SH_at (by decide +kernel)
theorem sM405 {LS : Nat} : (SH LS)[405]? = some (100, 16) := SH_at (by decide +kernel)
theorem sM406 {LS : Nat} : (SH LS)[406]? = some (100, 16) := SH_at (by decide +kernel)
theorem sM407 {LS : Nat} : (SH LS)[407]? = some (100, 4) := SH_at (by decide +kernel)
theorem sM408 {LS : Nat} : (SH LS)[408]? = some (101, 60) := SH_at (by decide +kernel)
theorem sM409 {LS : Nat} : (SH LS)[409]? = some (101, 9) := SH_at (by decide +kernel)
set_option maxRecDepth 20000 in
set_option maxHeartbeats 4000000 in
theorem c87 {LS : Nat} {rm : Nat → Nat → Option Nat} {im : Nat → Nat → Int32} {P : Option Value → (Nat → Nat → Int32) → Prop} {x l h : Int32} (h1 : l ≤ x → x ≤ h → P (some (.int 1)) im) (h0 : (x < l ∨ h < x) → P (some (.int 0)) im) : Gm LS rm 87 0 (en_in 87 [.int x, .int l, .int h]) [] im P := by
  show Gm LS rm 87 0 [.int (x), .int (l), .int (h)] [] im P
  refine g_iload_n k87_0 rfl ?_
  refine g_iload_n k87_1 rfl ?_
  refine g_icmp_lt k87_2 (fun g => ?_) (fun g => ?_)
  · refine g_iconst (v := 0) k87_14 ic_0 ?_
    exact g_retz k87_15 rfl (by decide) (h0 (Or.inl g))
  · refine g_iload_n k87_5 rfl ?_
    refine g_iload_n k87_6 rfl ?_
    refine g_icmp_gt k87_7 (fun d => ?_) (fun d => ?_)
    · refine g_iconst (v := 0) k87_14 ic_0 ?_
      exact g_retz k87_15 rfl (by decide) (h0 (Or.inr d))
    · refine g_iconst (v := 1) k87_10 ic_1 ?_
      refine g_goto k87_11 ?_
      exact g_retz k87_15 rfl (by decide) (h1 (Int32.not_lt.mp g) (Int32.not_lt.mp d))

theorem lt_out {x : Int32} {n : Nat} (hn : n < 1000) (h : x < 0 ∨ nI n < x) : x < 0 ∨ nI (n + 1) ≤ x := by
  rcases h with h | h
  · exact Or.inl h
  · right
    apply Int32.le_iff_toInt_le.mpr
    have h1 := Int32.lt_iff_toInt_lt.mp h
    rw [nI_toInt (by omega)] at h1 ⊢
    omega
theorem c87n {LS : Nat} {rm : Nat → Nat → Option Nat} {im : Nat → Nat → Int32} {P : Option Value → (Nat → Nat → Int32) → Prop} {x : Int32} (n : Nat) (hn : n < 1000) (h1 : ∀ q, q < n + 1 → x = nI q → P (some (.int 1)) im) (h0 : (x < 0 ∨ nI (n + 1) ≤ x) → P (some (.int 0)) im) : Gm LS rm 87 0 (en_in 87 [.int x, .int 0, .int (nI n)]) [] im P :=
  c87 (fun a b => by obtain ⟨q, hq, e⟩ := le_nI hn a b; exact h1 q (by omega) e) (fun h => h0 (lt_out hn h))
set_option maxRecDepth 20000 in
set_option maxHeartbeats 4000000 in
theorem c101 {LS : Nat} {rm : Nat → Nat → Option Nat} {im : Nat → Nat → Int32} {P : Option Value → (Nat → Nat → Int32) → Prop} {x : Int32} {m : Nat} (hO : isMo LS rm) (hm : im 371 9 = nI m) (hm2 : m ≤ 60) (h1 : ∀ q, q < m → x = nI q → P (some (.int 1)) im) (h0 : (x < 0 ∨ nI m ≤ x) → P (some (.int 0)) im) : Gm LS rm 101 0 (en_in 101 [.ref 371, .int x]) [] im P := by
  show Gm LS rm 101 0 [.ref (371), .int (x)] [] im P
  refine g_iload_n k101_0 rfl ?_
  refine g_if_lt k101_1 (fun g => ?_) (fun g => ?_)
  · refine g_iconst (v := 0) k101_16 ic_0 ?_
    exact g_retz k101_17 rfl (by decide) (h0 (Or.inl g))
  · refine g_iload_n k101_4 rfl ?_
    refine g_aload_n k101_5 rfl ?_
    refine g_getv (v := nI m) k101_6 (sM371) (by decide) (hm) ?_
    refine g_icmp_ge k101_9 (fun d => ?_) (fun d => ?_)
    · refine g_iconst (v := 0) k101_16 ic_0 ?_
      exact g_retz k101_17 rfl (by decide) (h0 (Or.inr d))
    · obtain ⟨q, hq, e⟩ := w_in (by omega) (Int32.not_lt.mp g) (Int32.not_le.mp d)
      refine g_iconst (v := 1) k101_12 ic_1 ?_
      refine g_goto k101_13 ?_
      exact g_retz k101_17 rfl (by decide) (h1 q hq e)

set_option maxRecDepth 20000 in
set_option maxHeartbeats 4000000 in
theorem c106 {LS : Nat} {rm : Nat → Nat → Option Nat} {im : Nat → Nat → Int32} {P : Option Value → (Nat → Nat → Int32) → Prop} {x : Int32} (h1 : ∀ q, q < 3 → x = nI q → P (some (.int 1)) im) (h0 : (x < 0 ∨ nI 3 ≤ x) → P (some (.int 0)) im) : Gm LS rm 106 0 (en_in 106 [.ref 371, .int x]) [] im P := by
  show Gm LS rm 106 0 [.ref (371), .int (x)] [] im P
  refine g_iload_n k106_0 rfl ?_
  refine g_if_lt k106_1 (fun g => ?_) (fun g => ?_)
  · refine g_iconst (v := 0) k106_13 ic_0 ?_
    exact g_retz k106_14 rfl (by decide) (h0 (Or.inl g))
  · refine g_iload_n k106_4 rfl ?_
    refine g_iconst (v := 2) k106_5 ic_2 ?_
    refine g_icmp_gt k106_6 (fun d => ?_) (fun d => ?_)
    · refine g_iconst (v := 0) k106_13 ic_0 ?_
      exact g_retz k106_14 rfl (by decide) (h0 (lt_out (n := 2) (by decide) (Or.inr d)))
    · obtain ⟨q, hq, e⟩ := le_nI (n := 2) (by decide) (Int32.not_lt.mp g) (Int32.not_lt.mp d)
      refine g_iconst (v := 1) k106_9 ic_1 ?_
      refine g_goto k106_10 ?_
      exact g_retz k106_14 rfl (by decide) (h1 q (by omega) e)

set_option maxRecDepth 20000 in
set_option maxHeartbeats 4000000 in
theorem c102 {LS : Nat} {rm : Nat → Nat → Option Nat} {im : Nat → Nat → Int32} {P : Option Value → (Nat → Nat → Int32) → Prop} {x : Int32} (hO : isMo LS rm) (h1 : ∀ p, p < 4 → x = nI p → im 402 p = 0 → P (some (.int 1)) im) (h0 : (∀ p, p < 4 → x = nI p → im 402 p ≠ 0) → P (some (.int 0)) im) : Gm LS rm 102 0 (en_in 102 [.ref 371, .int x]) [] im P := by
  show Gm LS rm 102 0 [.ref (371), .int (x)] [] im P
  refine g_iload_n k102_0 rfl ?_
  refine g_iconst (v := 0) k102_1 ic_0 ?_
  refine g_iconst (v := 3) k102_2 ic_3 ?_
  refine g_invS3 k102_3 rfl rfl rfl (by decide) (Nat.le_of_ble_eq_true rfl) (c87n 3 (by decide) (fun q hq e => ?_) (fun h => ?_))
  · subst e
    refine g_if_eq k102_6 (fun h => absurd h (by decide)) (fun _ => ?_)
    refine g_aload_n k102_9 rfl ?_
    refine g_getr k102_10 (sM371) (by decide) (mo_down hO) ?_
    refine g_iload_n k102_13 rfl ?_
    refine g_zalv k102_14 (sM402) (hq) (by decide) (rfl) ?_
    refine g_if_ne k102_15 (fun h => ?_) (fun h => ?_)
    · refine g_iconst (v := 0) k102_22 ic_0 ?_
      exact g_retz k102_23 rfl (by decide) (h0 (fun p hp e => by rw [← nI_inj e (by omega) (by omega)]; exact h))
    · refine g_iconst (v := 1) k102_18 ic_1 ?_
      refine g_goto k102_19 ?_
      exact g_retz k102_23 rfl (by decide) (h1 q hq rfl h)
  · refine g_if_eq k102_6 (fun _ => ?_) (fun h => absurd (by decide) h)
    refine g_iconst (v := 0) k102_22 ic_0 ?_
    exact g_retz k102_23 rfl (by decide) (h0 (fun p hp e => absurd e (w_out (by decide) hp h)))

set_option maxRecDepth 20000 in
set_option maxHeartbeats 4000000 in
theorem y1 {LS : Nat} {rm : Nat → Nat → Option Nat} {im : Nat → Nat → Int32} {P : Option Value → (Nat → Nat → Int32) → Prop} {a1 a2 x : Int32} {ln : Nat → Nat} {m : Nat} (hO : isMo LS rm) (hm : im 371 9 = nI m) (hm2 : m ≤ 60) (hl : ∀ p, p < 4 → im 372 p = nI (ln p) ∧ ln p ≤ 12) (h1 : ∀ p o, kCode ln m a1 a2 x p o → P (some (.int 1)) (en_u2 (en_u2 (en_u2 im 373 (12 * p + ln p) a2) 374 (12 * p + ln p) x) 372 p (nI (ln p + 1)))) (h0 : (∀ p o, ¬ kCode ln m a1 a2 x p o) → P (some (.int 0)) im) : Gm LS rm 88 0 (en_in 88 [.ref 371, .int a1, .int a2, .int x]) [] im P := by
  show Gm LS rm 88 0 [.ref (371), .int (a1), .int (a2), .int (x)] [] im P
  refine g_iload_n k88_0 rfl ?_
  refine g_iconst (v := 0) k88_1 ic_0 ?_
  refine g_iconst (v := 3) k88_2 ic_3 ?_
  refine g_invS3 k88_3 rfl rfl rfl (by decide) (Nat.le_of_ble_eq_true rfl) (c87n 3 (by decide) (fun p hp e => ?_) (fun h => ?_))
  · subst e
    obtain ⟨l1, l2⟩ := hl p hp
    refine g_if_eq k88_6 (fun h => absurd h (by decide)) (fun _ => ?_)
    refine g_iload_n k88_9 rfl ?_
    refine g_iconst (v := 0) k88_10 ic_0 ?_
    refine g_bipush (v := 10) k88_11 bp_10 ?_
    refine g_invS3 k88_13 rfl rfl rfl (by decide) (Nat.le_of_ble_eq_true rfl) (c87n 10 (by decide) (fun o ho e2 => ?_) (fun h2 => ?_))
    · subst e2
      refine g_if_eq k88_16 (fun h => absurd h (by decide)) (fun _ => ?_)
      refine g_iload_n k88_19 rfl ?_
      refine g_bipush (v := 6) k88_20 bp_6 ?_
      refine g_icmp_ne k88_22 (fun d => ?_) (fun d => ?_)
      · have o6 : o ≠ 6 := fun z => d (by rw [z]; rfl)
        refine g_aload_n k88_35 rfl ?_
        refine g_getr k88_36 (sM371) (by decide) (mo_length hO) ?_
        refine g_iload_n k88_39 rfl ?_
        refine g_ialv (v := nI (ln p)) k88_40 (sM372) (hp) (by decide) (l1) ?_
        refine g_bipush (v := 12) k88_41 bp_12 ?_
        refine g_icmp_eq k88_43 (fun c => ?_) (fun c => ?_)
        · refine g_iconst (v := 0) k88_53 ic_0 ?_
          exact g_retz k88_54 rfl (by decide) (h0 (fun p2 o2 k2 => by obtain ⟨q1, q2, q3, q4, q5, q6, q7⟩ := k2; have z := nI_inj q3 (by omega) (by omega); subst z; have z2 := nI_inj (b := 12) c (by omega) (by decide); omega))
        · have hlt : ln p < 12 := by have : ln p ≠ 12 := fun z => c (by rw [z]; rfl); omega
          refine g_aload_n k88_46 rfl ?_
          refine g_getv (v := nI m) k88_47 (sM371) (by decide) (hm) ?_
          refine g_if_le k88_50 (fun g => ?_) (fun g => ?_)
          · have hm0 : m = 0 := by
              have : ¬ 0 < m := fun y => nI_nle y (by omega) g
              omega
            refine g_aload_n k88_55 rfl ?_
            refine g_getr k88_56 (sM371) (by decide) (mo_op hO) ?_
            refine g_bipush (v := 12) k88_59 bp_12 ?_
            refine g_iload_n k88_61 rfl ?_
            refine g_imul k88_62 ?_
            refine g_aload_n k88_63 rfl ?_
            refine g_getr k88_64 (sM371) (by decide) (mo_length hO) ?_
            refine g_iload_n k88_67 rfl ?_
            refine g_ialv (v := nI (ln p)) k88_68 (sM372) (hp) (by decide) (l1) ?_
            refine g_iadd k88_69 ?_
            refine g_top (y := nI (12 * p + ln p)) (by rw [show (12 : Int32) = nI 12 from rfl, pk_mul, nI_add]) ?_
            refine g_iload_n k88_70 rfl ?_
            refine g_iasv k88_71 (sM373) (by omega) (by decide) ?_
            refine g_aload_n k88_72 rfl ?_
            refine g_getr k88_73 (sM371) (by decide) (mo_operand hO) ?_
            refine g_bipush (v := 12) k88_76 bp_12 ?_
            refine g_iload_n k88_78 rfl ?_
            refine g_imul k88_79 ?_
            refine g_aload_n k88_80 rfl ?_
            refine g_getr k88_81 (sM371) (by decide) (mo_length hO) ?_
            refine g_iload_n k88_84 rfl ?_
            refine g_ialv (v := nI (ln p)) k88_85 (sM372) (hp) (by decide) (by rw [u2_ne (by omega)]; exact l1) ?_
            refine g_iadd k88_86 ?_
            refine g_top (y := nI (12 * p + ln p)) (by rw [show (12 : Int32) = nI 12 from rfl, pk_mul, nI_add]) ?_
            refine g_iload_n k88_87 rfl ?_
            refine g_iasv k88_88 (sM374) (by omega) (by decide) ?_
            refine g_aload_n k88_89 rfl ?_
            refine g_getr k88_90 (sM371) (by decide) (mo_length hO) ?_
            refine g_iload_n k88_93 rfl ?_
            refine g_dup2 k88_94 rfl rfl ?_
            refine g_ialv (v := nI (ln p)) k88_95 (sM372) (hp) (by decide) (by rw [u2_ne (by omega), u2_ne (by omega)]; exact l1) ?_
            refine g_iconst (v := 1) k88_96 ic_1 ?_
            refine g_iadd k88_97 ?_
            refine g_top (y := nI (ln p + 1)) (nI_1 _) ?_
            refine g_iasv k88_98 (sM372) (hp) (by decide) ?_
            refine g_iconst (v := 1) k88_99 ic_1 ?_
            exact g_retz k88_100 rfl (by decide) (h1 p o ⟨hp, ho, rfl, rfl, hm0, fun z => absurd z o6, hlt⟩)
          · refine g_iconst (v := 0) k88_53 ic_0 ?_
            exact g_retz k88_54 rfl (by decide) (h0 (fun p2 o2 k2 => g (by rw [k2.2.2.2.2.1]; decide)))
      · have o6 : o = 6 := nI_inj d (by omega) (by decide)
        refine g_iload_n k88_25 rfl ?_
        refine g_iconst (v := 0) k88_26 ic_0 ?_
        refine g_bipush (v := 12) k88_27 bp_12 ?_
        refine g_invS3 k88_29 rfl rfl rfl (by decide) (Nat.le_of_ble_eq_true rfl) (c87n 12 (by decide) (fun y hy ey => ?_) (fun hy0 => ?_))
        · refine g_if_eq k88_32 (fun h => absurd h (by decide)) (fun _ => ?_)
          refine g_aload_n k88_35 rfl ?_
          refine g_getr k88_36 (sM371) (by decide) (mo_length hO) ?_
          refine g_iload_n k88_39 rfl ?_
          refine g_ialv (v := nI (ln p)) k88_40 (sM372) (hp) (by decide) (l1) ?_
          refine g_bipush (v := 12) k88_41 bp_12 ?_
          refine g_icmp_eq k88_43 (fun c => ?_) (fun c => ?_)
          · refine g_iconst (v := 0) k88_53 ic_0 ?_
            exact g_retz k88_54 rfl (by decide) (h0 (fun p2 o2 k2 => by obtain ⟨q1, q2, q3, q4, q5, q6, q7⟩ := k2; have z := nI_inj q3 (by omega) (by omega); subst z; have z2 := nI_inj (b := 12) c (by omega) (by decide); omega))
          · have hlt : ln p < 12 := by have : ln p ≠ 12 := fun z => c (by rw [z]; rfl); omega
            refine g_aload_n k88_46 rfl ?_
            refine g_getv (v := nI m) k88_47 (sM371) (by decide) (hm) ?_
            refine g_if_le k88_50 (fun g => ?_) (fun g => ?_)
            · have hm0 : m = 0 := by
                have : ¬ 0 < m := fun y => nI_nle y (by omega) g
                omega
              refine g_aload_n k88_55 rfl ?_
              refine g_getr k88_56 (sM371) (by decide) (mo_op hO) ?_
              refine g_bipush (v := 12) k88_59 bp_12 ?_
              refine g_iload_n k88_61 rfl ?_
              refine g_imul k88_62 ?_
              refine g_aload_n k88_63 rfl ?_
              refine g_getr k88_64 (sM371) (by decide) (mo_length hO) ?_
              refine g_iload_n k88_67 rfl ?_
              refine g_ialv (v := nI (ln p)) k88_68 (sM372) (hp) (by decide) (l1) ?_
              refine g_iadd k88_69 ?_
              refine g_top (y := nI (12 * p + ln p)) (by rw [show (12 : Int32) = nI 12 from rfl, pk_mul, nI_add]) ?_
              refine g_iload_n k88_70 rfl ?_
              refine g_iasv k88_71 (sM373) (by omega) (by decide) ?_
              refine g_aload_n k88_72 rfl ?_
              refine g_getr k88_73 (sM371) (by decide) (mo_operand hO) ?_
              refine g_bipush (v := 12) k88_76 bp_12 ?_
              refine g_iload_n k88_78 rfl ?_
              refine g_imul k88_79 ?_
              refine g_aload_n k88_80 rfl ?_
              refine g_getr k88_81 (sM371) (by decide) (mo_length hO) ?_
              refine g_iload_n k88_84 rfl ?_
              refine g_ialv (v := nI (ln p)) k88_85 (sM372) (hp) (by decide) (by rw [u2_ne (by omega)]; exact l1) ?_
              refine g_iadd k88_86 ?_
              refine g_top (y := nI (12 * p + ln p)) (by rw [show (12 : Int32) = nI 12 from rfl, pk_mul, nI_add]) ?_
              refine g_iload_n k88_87 rfl ?_
              refine g_iasv k88_88 (sM374) (by omega) (by decide) ?_
              refine g_aload_n k88_89 rfl ?_
              refine g_getr k88_90 (sM371) (by decide) (mo_length hO) ?_
              refine g_iload_n k88_93 rfl ?_
              refine g_dup2 k88_94 rfl rfl ?_
              refine g_ialv (v := nI (ln p)) k88_95 (sM372) (hp) (by decide) (by rw [u2_ne (by omega), u2_ne (by omega)]; exact l1) ?_
              refine g_iconst (v := 1) k88_96 ic_1 ?_
              refine g_iadd k88_97 ?_
              refine g_top (y := nI (ln p + 1)) (nI_1 _) ?_
              refine g_iasv k88_98 (sM372) (hp) (by decide) ?_
              refine g_iconst (v := 1) k88_99 ic_1 ?_
              exact g_retz k88_100 rfl (by decide) (h1 p o ⟨hp, ho, rfl, rfl, hm0, fun _ => ⟨y, hy, ey⟩, hlt⟩)
            · refine g_iconst (v := 0) k88_53 ic_0 ?_
              exact g_retz k88_54 rfl (by decide) (h0 (fun p2 o2 k2 => g (by rw [k2.2.2.2.2.1]; decide)))
        · refine g_if_eq k88_32 (fun _ => ?_) (fun h => absurd (by decide) h)
          refine g_iconst (v := 0) k88_53 ic_0 ?_
          exact g_retz k88_54 rfl (by decide) (h0 (fun p2 o2 k2 => by obtain ⟨q1, q2, q3, q4, q5, q6, q7⟩ := k2; have z := nI_inj q4 (by omega) (by omega); subst z; obtain ⟨y, hy, ey⟩ := q6 o6; exact w_out (by decide) hy hy0 ey))
    · refine g_if_eq k88_16 (fun _ => ?_) (fun h => absurd (by decide) h)
      refine g_iconst (v := 0) k88_53 ic_0 ?_
      exact g_retz k88_54 rfl (by decide) (h0 (fun p2 o2 k2 => w_out (by decide) k2.2.1 h2 k2.2.2.2.1))
  · refine g_if_eq k88_6 (fun _ => ?_) (fun h => absurd (by decide) h)
    refine g_iconst (v := 0) k88_53 ic_0 ?_
    exact g_retz k88_54 rfl (by decide) (h0 (fun p2 o2 k2 => w_out (by decide) k2.1 h k2.2.2.1))

set_option maxRecDepth 20000 in
set_option maxHeartbeats 4000000 in
theorem y3 {LS : Nat} {rm : Nat → Nat → Option Nat} {im : Nat → Nat → Int32} {P : Option Value → (Nat → Nat → Int32) → Prop} {a1 a2 : Int32} {m : Nat} (hO : isMo LS rm) (hm : im 371 9 = nI m) (hm2 : m ≤ 60) (h1 : ∀ p, p < 4 → a1 = nI p → m < 60 → P (some (.int (nI m))) (en_u2 (en_u2 (en_u2 im 381 m a1) 382 m a2) 371 9 (nI (m + 1)))) (h0 : (∀ p, ¬ (p < 4 ∧ a1 = nI p ∧ m < 60)) → P (some (.int (-1))) im) : Gm LS rm 103 0 (en_in 103 [.ref 371, .int a1, .int a2]) [] im P := by
  show Gm LS rm 103 0 [.ref (371), .int (a1), .int (a2)] [] im P
  refine g_iload_n k103_0 rfl ?_
  refine g_iconst (v := 0) k103_1 ic_0 ?_
  refine g_iconst (v := 3) k103_2 ic_3 ?_
  refine g_invS3 k103_3 rfl rfl rfl (by decide) (Nat.le_of_ble_eq_true rfl) (c87n 3 (by decide) (fun p hp e => ?_) (fun h => ?_))
  · subst e
    refine g_if_eq k103_6 (fun h => absurd h (by decide)) (fun _ => ?_)
    refine g_aload_n k103_9 rfl ?_
    refine g_getv (v := nI m) k103_10 (sM371) (by decide) (hm) ?_
    refine g_bipush (v := 60) k103_13 bp_60 ?_
    refine g_icmp_ne k103_15 (fun g => ?_) (fun g => ?_)
    · have hlt : m < 60 := by have : m ≠ 60 := fun z => g (by rw [z]; rfl); omega
      refine g_aload_n k103_20 rfl ?_
      refine g_getr k103_21 (sM371) (by decide) (mo_program hO) ?_
      refine g_aload_n k103_24 rfl ?_
      refine g_getv (v := nI m) k103_25 (sM371) (by decide) (hm) ?_
      refine g_iload_n k103_28 rfl ?_
      refine g_iasv k103_29 (sM381) (by omega) (by decide) ?_
      refine g_aload_n k103_30 rfl ?_
      refine g_getr k103_31 (sM371) (by decide) (mo_argument hO) ?_
      refine g_aload_n k103_34 rfl ?_
      refine g_getv (v := nI m) k103_35 (sM371) (by decide) (by rw [u2_ne (by omega)]; exact hm) ?_
      refine g_iload_n k103_38 rfl ?_
      refine g_iasv k103_39 (sM382) (by omega) (by decide) ?_
      refine g_aload_n k103_40 rfl ?_
      refine g_dup k103_41 rfl ?_
      refine g_getv (v := nI m) k103_42 (sM371) (by decide) (by rw [u2_ne (by omega), u2_ne (by omega)]; exact hm) ?_
      refine g_iconst (v := 1) k103_45 ic_1 ?_
      refine g_iadd k103_46 ?_
      refine g_top (y := nI (m + 1)) (nI_1 m) ?_
      refine g_puti k103_47 (by decide) (sM371) (by decide) ?_
      refine g_aload_n k103_50 rfl ?_
      refine g_getv (v := nI (m + 1)) k103_51 (sM371) (by decide) (u2_eq) ?_
      refine g_iconst (v := 1) k103_54 ic_1 ?_
      refine g_isub k103_55 ?_
      refine g_top (y := nI m) (nI_pred m) ?_
      exact g_reti k103_56 rfl (h1 p hp rfl hlt)
    · refine g_iconst (v := -1) k103_18 ic_m1 ?_
      exact g_reti k103_19 rfl (h0 (fun p2 k2 => by have := nI_inj (b := 60) g (by omega) (by decide); omega))
  · refine g_if_eq k103_6 (fun _ => ?_) (fun h => absurd (by decide) h)
    refine g_iconst (v := -1) k103_18 ic_m1 ?_
    exact g_reti k103_19 rfl (h0 (fun p2 k2 => w_out (by decide) k2.1 h k2.2.1))

set_option maxRecDepth 20000 in
set_option maxHeartbeats 4000000 in
theorem y5 {LS : Nat} {rm : Nat → Nat → Option Nat} {im : Nat → Nat → Int32} {P : Option Value → (Nat → Nat → Int32) → Prop} {a1 : Int32} {m w : Nat} (hO : isMo LS rm) (hm : im 371 9 = nI m) (hm2 : m ≤ 60) (hw : im 371 25 = nI w) (hw2 : w ≤ 20) (h1 : ∀ t, t < m → a1 = nI t → im 383 t ≠ 0 → w < 20 → P (some (.int 1)) (en_u2 (en_u2 (en_u2 im 393 w a1) 371 25 (nI (w + 1))) 384 t 1)) (h0 : (∀ t, ¬ (t < m ∧ a1 = nI t ∧ im 383 t ≠ 0 ∧ w < 20)) → P (some (.int 0)) im) : Gm LS rm 105 0 (en_in 105 [.ref 371, .int a1]) [] im P := by
  show Gm LS rm 105 0 [.ref (371), .int (a1)] [] im P
  refine g_aload_n k105_0 rfl ?_
  refine g_iload_n k105_1 rfl ?_
  refine g_inv1 k105_2 (sM371) rfl (by decide) (Nat.le_of_ble_eq_true rfl) (c101 hO hm hm2 (fun t ht e => ?_) (fun h => ?_))
  · subst e
    refine g_if_eq k105_5 (fun h => absurd h (by decide)) (fun _ => ?_)
    refine g_aload_n k105_8 rfl ?_
    refine g_getr k105_9 (sM371) (by decide) (mo_endorsers hO) ?_
    refine g_iload_n k105_12 rfl ?_
    refine g_ialv k105_13 (sM383) (by omega) (by decide) (rfl) ?_
    refine g_if_eq k105_14 (fun g => ?_) (fun g => ?_)
    · refine g_iconst (v := 0) k105_26 ic_0 ?_
      exact g_retz k105_27 rfl (by decide) (h0 (fun t2 k2 => by obtain ⟨q1, q2, q3, q4⟩ := k2; have := nI_inj q2 (by omega) (by omega); subst this; exact q3 g))
    · refine g_aload_n k105_17 rfl ?_
      refine g_getv (v := nI w) k105_18 (sM371) (by decide) (hw) ?_
      refine g_bipush (v := 20) k105_21 bp_20 ?_
      refine g_icmp_ne k105_23 (fun d => ?_) (fun d => ?_)
      · have hlt : w < 20 := by have : w ≠ 20 := fun z => d (by rw [z]; rfl); omega
        refine g_aload_n k105_28 rfl ?_
        refine g_getr k105_29 (sM371) (by decide) (mo_queue hO) ?_
        refine g_aload_n k105_32 rfl ?_
        refine g_getv (v := nI w) k105_33 (sM371) (by decide) (hw) ?_
        refine g_iload_n k105_36 rfl ?_
        refine g_iasv k105_37 (sM393) (hlt) (by decide) ?_
        refine g_aload_n k105_38 rfl ?_
        refine g_dup k105_39 rfl ?_
        refine g_getv (v := nI w) k105_40 (sM371) (by decide) (by rw [u2_ne (by omega)]; exact hw) ?_
        refine g_iconst (v := 1) k105_43 ic_1 ?_
        refine g_iadd k105_44 ?_
        refine g_top (y := nI (w + 1)) (nI_1 w) ?_
        refine g_puti k105_45 (by decide) (sM371) (by decide) ?_
        refine g_aload_n k105_48 rfl ?_
        refine g_getr k105_49 (sM371) (by decide) (mo_closed hO) ?_
        refine g_iload_n k105_52 rfl ?_
        refine g_iconst (v := 1) k105_53 ic_1 ?_
        refine g_zasv k105_54 (sM384) (by omega) (by decide) (by decide) ?_
        refine g_iconst (v := 1) k105_55 ic_1 ?_
        exact g_retz k105_56 rfl (by decide) (h1 t ht rfl g hlt)
      · refine g_iconst (v := 0) k105_26 ic_0 ?_
        exact g_retz k105_27 rfl (by decide) (h0 (fun t2 k2 => by have := nI_inj (b := 20) d (by omega) (by decide); omega))
  · refine g_if_eq k105_5 (fun _ => ?_) (fun h => absurd (by decide) h)
    refine g_iconst (v := 0) k105_26 ic_0 ?_
    exact g_retz k105_27 rfl (by decide) (h0 (fun p2 k2 => w_out (by omega) k2.1 h k2.2.1))

def isLR (im : Nat → Nat → Int32) (o n t : Nat) : Prop := im 400 o = nI n ∧ n ≤ 40 ∧ t < 100000 ∧ ((n = 0 ∧ t = 0) ∨ (0 < n ∧ ∃ m, m < 60 ∧ im 399 (40 * o + (n - 1)) = nI m ∧ im 396 m = nI t))
set_option maxRecDepth 20000 in
set_option maxHeartbeats 4000000 in
theorem c107 {LS : Nat} {rm : Nat → Nat → Option Nat} {im : Nat → Nat → Int32} {P : Option Value → (Nat → Nat → Int32) → Prop} {o n t : Nat} (hO : isMo LS rm) (ho : o < 3) (hT : isLR im o n t) (h1 : P (some (.int (nI t))) im) : Gm LS rm 107 0 (en_in 107 [.ref 371, .int (nI o)]) [] im P := by
  show Gm LS rm 107 0 [.ref (371), .int (nI o)] [] im P
  obtain ⟨hn, hb, -, hor⟩ := hT
  refine g_aload_n k107_0 rfl ?_
  refine g_getr k107_1 (sM371) (by decide) (mo_logged hO) ?_
  refine g_iload_n k107_4 rfl ?_
  refine g_ialv (v := nI n) k107_5 (sM400) (ho) (by decide) (hn) ?_
  refine g_if_ne k107_6 (fun g => ?_) (fun g => ?_)
  · have hz : 0 < n := Nat.pos_of_ne_zero (fun z => g (by rw [z]; rfl))
    rcases hor with z | ⟨-, m, hm, e1, e2⟩
    · omega
    refine g_aload_n k107_13 rfl ?_
    refine g_getr k107_14 (sM371) (by decide) (mo_cutIn hO) ?_
    refine g_aload_n k107_17 rfl ?_
    refine g_getr k107_18 (sM371) (by decide) (mo_logs hO) ?_
    refine g_bipush (v := 40) k107_21 bp_40 ?_
    refine g_iload_n k107_23 rfl ?_
    refine g_imul k107_24 ?_
    refine g_aload_n k107_25 rfl ?_
    refine g_getr k107_26 (sM371) (by decide) (mo_logged hO) ?_
    refine g_iload_n k107_29 rfl ?_
    refine g_ialv (v := nI n) k107_30 (sM400) (ho) (by decide) (hn) ?_
    refine g_iadd k107_31 ?_
    refine g_top (y := nI (40 * o + n)) (by rw [show (40 : Int32) = nI 40 from rfl, pk_mul, nI_add]) ?_
    refine g_iconst (v := 1) k107_32 ic_1 ?_
    refine g_isub k107_33 ?_
    refine g_top (y := nI (40 * o + (n - 1))) (by rw [nI_m1 (by omega), show 40 * o + n - 1 = 40 * o + (n - 1) by omega]) ?_
    refine g_ialv (v := nI m) k107_34 (sM399) (by omega) (by decide) (e1) ?_
    refine g_ialv (v := nI t) k107_35 (sM396) (hm) (by decide) (e2) ?_
    exact g_reti k107_36 rfl (h1)
  · have hz : n = 0 := Decidable.byContradiction (fun z => nI_ne0 (Nat.pos_of_ne_zero z) (by omega) g)
    rcases hor with ⟨-, z⟩ | ⟨z, -⟩
    · subst z
      refine g_iconst (v := 0) k107_9 ic_0 ?_
      refine g_goto k107_10 ?_
      exact g_reti k107_36 rfl (h1)
    · omega

set_option maxRecDepth 20000 in
set_option maxHeartbeats 4000000 in
theorem c108 {LS : Nat} {rm : Nat → Nat → Option Nat} {im : Nat → Nat → Int32} {P : Option Value → (Nat → Nat → Int32) → Prop} {a b n1 n2 t1 t2 : Nat} (hO : isMo LS rm) (ha : a < 3) (hb : b < 3) (hTa : isLR im a n1 t1) (hTb : isLR im b n2 t2) (h1 : (t2 < t1 ∨ (t1 = t2 ∧ n2 < n1)) → P (some (.int 1)) im) (h0 : ¬ (t2 < t1 ∨ (t1 = t2 ∧ n2 < n1)) → P (some (.int 0)) im) : Gm LS rm 108 0 (en_in 108 [.ref 371, .int (nI a), .int (nI b)]) [] im P := by
  show Gm LS rm 108 0 [.ref (371), .int (nI a), .int (nI b)] [] im P
  have x1 := hTa.2.2.1
  have x2 := hTb.2.2.1
  have x3 := hTa.2.1
  have x4 := hTb.2.1
  refine g_aload_n k108_0 rfl ?_
  refine g_iload_n k108_1 rfl ?_
  refine g_inv1 k108_2 (sM371) rfl (by decide) (Nat.le_of_ble_eq_true rfl) (c107 hO ha hTa ?_)
  refine g_aload_n k108_5 rfl ?_
  refine g_iload_n k108_6 rfl ?_
  refine g_inv1 k108_7 (sM371) rfl (by decide) (Nat.le_of_ble_eq_true rfl) (c107 hO hb hTb ?_)
  refine g_icmp_gt k108_10 (fun g => ?_) (fun g => ?_)
  · refine g_iconst (v := 1) k108_41 ic_1 ?_
    refine g_goto k108_42 ?_
    exact g_retz k108_46 rfl (by decide) (h1 (Or.inl ((nI_ltI (by omega) (by omega)).mp g)))
  · have g1 : ¬ t2 < t1 := fun z => g (nI_lt z (by omega))
    refine g_aload_n k108_13 rfl ?_
    refine g_iload_n k108_14 rfl ?_
    refine g_inv1 k108_15 (sM371) rfl (by decide) (Nat.le_of_ble_eq_true rfl) (c107 hO ha hTa ?_)
    refine g_aload_n k108_18 rfl ?_
    refine g_iload_n k108_19 rfl ?_
    refine g_inv1 k108_20 (sM371) rfl (by decide) (Nat.le_of_ble_eq_true rfl) (c107 hO hb hTb ?_)
    refine g_icmp_ne k108_23 (fun e => ?_) (fun e => ?_)
    · have g2 : t1 ≠ t2 := fun z => e (by rw [z])
      refine g_iconst (v := 0) k108_45 ic_0 ?_
      exact g_retz k108_46 rfl (by decide) (h0 (fun z => z.elim g1 (fun y => g2 y.1)))
    · have g2 : t1 = t2 := (nI_eq (by omega) (by omega)).mp e
      refine g_aload_n k108_26 rfl ?_
      refine g_getr k108_27 (sM371) (by decide) (mo_logged hO) ?_
      refine g_iload_n k108_30 rfl ?_
      refine g_ialv (v := nI n1) k108_31 (sM400) (ha) (by decide) (hTa.1) ?_
      refine g_aload_n k108_32 rfl ?_
      refine g_getr k108_33 (sM371) (by decide) (mo_logged hO) ?_
      refine g_iload_n k108_36 rfl ?_
      refine g_ialv (v := nI n2) k108_37 (sM400) (hb) (by decide) (hTb.1) ?_
      refine g_icmp_le k108_38 (fun d => ?_) (fun d => ?_)
      · refine g_iconst (v := 0) k108_45 ic_0 ?_
        exact g_retz k108_46 rfl (by decide) (h0 (fun z => z.elim g1 (fun y => nI_ge (a := n2) (b := n1) y.2 (by omega) d)))
      · refine g_iconst (v := 1) k108_41 ic_1 ?_
        refine g_goto k108_42 ?_
        exact g_retz k108_46 rfl (by decide) (h1 (Or.inr ⟨g2, Nat.not_le.mp (fun z => d (nI_le z (by omega)))⟩))

set_option maxRecDepth 20000 in
set_option maxHeartbeats 4000000 in
theorem y11 {LS : Nat} {rm : Nat → Nat → Option Nat} {im : Nat → Nat → Int32} {P : Option Value → (Nat → Nat → Int32) → Prop} {a1 : Int32} {c : Nat} {st : Nat → Nat} (hO : isMo LS rm) (hc : im 371 36 = nI c) (hc2 : c ≤ 40) (hst : ∀ p, p < 4 → im 403 p = nI (st p) ∧ st p ≤ c) (h1 : ∀ p, p < 4 → a1 = nI p → im 402 p = 0 → st p < c → P (some (.int 1)) (en_u2 (en_u2 im 403 p (nI (st p + 1))) 402 p 1)) (h0 : (∀ p, ¬ (p < 4 ∧ a1 = nI p ∧ im 402 p = 0 ∧ st p < c)) → P (some (.int 0)) im) : Gm LS rm 114 0 (en_in 114 [.ref 371, .int a1]) [] im P := by
  show Gm LS rm 114 0 [.ref (371), .int (a1)] [] im P
  refine g_aload_n k114_0 rfl ?_
  refine g_iload_n k114_1 rfl ?_
  refine g_inv1 k114_2 (sM371) rfl (by decide) (Nat.le_of_ble_eq_true rfl) (c102 hO (fun p hp e hu => ?_) (fun h => ?_))
  · subst e
    obtain ⟨s1, s2⟩ := hst p hp
    refine g_if_eq k114_5 (fun h => absurd h (by decide)) (fun _ => ?_)
    refine g_aload_n k114_8 rfl ?_
    refine g_getr k114_9 (sM371) (by decide) (mo_stored hO) ?_
    refine g_iload_n k114_12 rfl ?_
    refine g_ialv (v := nI (st p)) k114_13 (sM403) (hp) (by decide) (s1) ?_
    refine g_aload_n k114_14 rfl ?_
    refine g_getv (v := nI c) k114_15 (sM371) (by decide) (hc) ?_
    refine g_icmp_ne k114_18 (fun g => ?_) (fun g => ?_)
    · have hlt : st p < c := by have : st p ≠ c := fun z => g (by rw [z]); omega
      refine g_aload_n k114_23 rfl ?_
      refine g_getr k114_24 (sM371) (by decide) (mo_stored hO) ?_
      refine g_iload_n k114_27 rfl ?_
      refine g_dup2 k114_28 rfl rfl ?_
      refine g_ialv (v := nI (st p)) k114_29 (sM403) (hp) (by decide) (s1) ?_
      refine g_iconst (v := 1) k114_30 ic_1 ?_
      refine g_iadd k114_31 ?_
      refine g_top (y := nI (st p + 1)) (nI_1 _) ?_
      refine g_iasv k114_32 (sM403) (hp) (by decide) ?_
      refine g_aload_n k114_33 rfl ?_
      refine g_getr k114_34 (sM371) (by decide) (mo_down hO) ?_
      refine g_iload_n k114_37 rfl ?_
      refine g_iconst (v := 1) k114_38 ic_1 ?_
      refine g_zasv k114_39 (sM402) (hp) (by decide) (by decide) ?_
      refine g_iconst (v := 1) k114_40 ic_1 ?_
      exact g_retz k114_41 rfl (by decide) (h1 p hp rfl hu hlt)
    · refine g_iconst (v := 0) k114_21 ic_0 ?_
      exact g_retz k114_22 rfl (by decide) (h0 (fun p2 k2 => by obtain ⟨q1, q2, q3, q4⟩ := k2; have z := nI_inj q2 (by omega) (by omega); subst z; have := nI_inj g (by omega) (by omega); omega))
  · refine g_if_eq k114_5 (fun _ => ?_) (fun h => absurd (by decide) h)
    refine g_iconst (v := 0) k114_21 ic_0 ?_
    exact g_retz k114_22 rfl (by decide) (h0 (fun p2 k2 => h p2 k2.1 k2.2.1 k2.2.2.1))

