def rbAt (im : Nat → Nat → Int32) (m : Nat) (w x : Int32) : Int32 := if x = -1 then w else if x < 0 ∨ im 395 m ≤ x then -1 else im 394 (4 * m + tn x)
set_option maxRecDepth 20000 in
set_option maxHeartbeats 4000000 in
theorem c119 {LS : Nat} {rm : Nat → Nat → Option Nat} {im : Nat → Nat → Int32} {P : Option Value → (Nat → Nat → Int32) → Prop} {m s : Nat} {x : Int32} (hO : isMo LS rm) (hm : m < 60) (hs : im 395 m = nI s) (hs4 : s ≤ 4) (h1 : ∀ q, q < s → x = nI q → P (some (.int (im 394 (4 * m + q)))) im) (h0 : (x < 0 ∨ nI s ≤ x) → P (some (.int (-1))) im) : Gm LS rm 119 0 (en_in 119 [.ref 371, .int (nI m), .int x]) [] im P := by
  show Gm LS rm 119 0 [.ref (371), .int (nI m), .int (x)] [] im P
  refine g_iload_n k119_0 rfl ?_
  refine g_if_lt k119_1 (fun g => ?_) (fun g => ?_)
  · refine g_iconst (v := -1) k119_14 ic_m1 ?_
    refine g_goto k119_15 ?_
    exact g_reti k119_28 rfl (h0 (Or.inl g))
  · refine g_iload_n k119_4 rfl ?_
    refine g_aload_n k119_5 rfl ?_
    refine g_getr k119_6 (sM371) (by decide) (mo_size hO) ?_
    refine g_iload_n k119_9 rfl ?_
    refine g_ialv (v := nI s) k119_10 (sM395) (hm) (by decide) (hs) ?_
    refine g_icmp_lt k119_11 (fun d => ?_) (fun d => ?_)
    · obtain ⟨q, hq, e⟩ := w_in (by omega) (Int32.not_lt.mp g) d
      subst e
      refine g_aload_n k119_18 rfl ?_
      refine g_getr k119_19 (sM371) (by decide) (mo_block hO) ?_
      refine g_iconst (v := 4) k119_22 ic_4 ?_
      refine g_iload_n k119_23 rfl ?_
      refine g_imul k119_24 ?_
      refine g_iload_n k119_25 rfl ?_
      refine g_iadd k119_26 ?_
      refine g_top (y := nI (4 * m + q)) (by rw [show (4 : Int32) = nI 4 from rfl, pk_mul, nI_add]) ?_
      refine g_ialv k119_27 (sM394) (by omega) (by decide) (rfl) ?_
      exact g_reti k119_28 rfl (h1 q hq rfl)
    · refine g_iconst (v := -1) k119_14 ic_m1 ?_
      refine g_goto k119_15 ?_
      exact g_reti k119_28 rfl (h0 (Or.inr (Int32.not_lt.mp d)))

theorem rbAt_in {im : Nat → Nat → Int32} {m q s : Nat} {w : Int32} (hs : im 395 m = nI s) (hs4 : s ≤ 4) (hq : q < s) : rbAt im m w (nI q) = im 394 (4 * m + q) := by
  unfold rbAt
  rw [hs, if_neg (fun e => by have h := nI_pos (n := q) (by omega); rw [e] at h; exact h (by decide)), if_neg (fun z => w_out (by omega) hq z rfl), tn_nI (by omega)]
theorem rbAt_out {im : Nat → Nat → Int32} {m s : Nat} {w x : Int32} (hs : im 395 m = nI s) (hx : ¬ x = -1) (h : x < 0 ∨ nI s ≤ x) : rbAt im m w x = -1 := by
  unfold rbAt
  rw [hs, if_neg hx, if_pos h]
set_option maxRecDepth 20000 in
set_option maxHeartbeats 4000000 in
theorem y16 {LS : Nat} {rm : Nat → Nat → Option Nat} {im : Nat → Nat → Int32} {P : Option Value → (Nat → Nat → Int32) → Prop} {a1 a2 : Int32} {c : Nat} {ch sz : Nat → Nat} (hO : isMo LS rm) (hc : im 371 36 = nI c) (hc2 : c ≤ 40) (hch : ∀ b, b < c → im 401 b = nI (ch b) ∧ ch b < 60 ∧ im 395 (ch b) = nI (sz (ch b)) ∧ sz (ch b) ≤ 4) (h1 : ∀ b, b < c → a1 = nI b → P (some (.int (rbAt im (ch b) (im 395 (ch b)) a2))) im) (h0 : (∀ b, ¬ (b < c ∧ a1 = nI b)) → P (some (.int (-1))) im) : Gm LS rm 120 0 (en_in 120 [.ref 371, .int a1, .int a2]) [] im P := by
  show Gm LS rm 120 0 [.ref (371), .int (a1), .int (a2)] [] im P
  refine g_iload_n k120_0 rfl ?_
  refine g_if_lt k120_1 (fun g => ?_) (fun g => ?_)
  · refine g_iconst (v := -1) k120_12 ic_m1 ?_
    exact g_reti k120_13 rfl (h0 (fun b2 k2 => w_out (by omega) k2.1 (Or.inl g) k2.2))
  · refine g_iload_n k120_4 rfl ?_
    refine g_aload_n k120_5 rfl ?_
    refine g_getv (v := nI c) k120_6 (sM371) (by decide) (hc) ?_
    refine g_icmp_lt k120_9 (fun d => ?_) (fun d => ?_)
    · obtain ⟨b, hb, e⟩ := w_in (by omega) (Int32.not_lt.mp g) d
      subst e
      obtain ⟨x1, x2, x3, x4⟩ := hch b hb
      have h1 := h1 b hb rfl
      refine g_iload_n k120_14 rfl ?_
      refine g_iconst (v := -1) k120_15 ic_m1 ?_
      refine g_icmp_ne k120_16 (fun k => ?_) (fun k => ?_)
      · refine g_aload_n k120_33 rfl ?_
        refine g_aload_n k120_34 rfl ?_
        refine g_getr k120_35 (sM371) (by decide) (mo_chained hO) ?_
        refine g_iload_n k120_38 rfl ?_
        refine g_ialv (v := nI (ch b)) k120_39 (sM401) (by omega) (by decide) (x1) ?_
        refine g_iload_n k120_40 rfl ?_
        refine g_inv2 k120_41 (sM371) rfl rfl (by decide) (Nat.le_of_ble_eq_true rfl) (c119 hO x2 x3 x4 (fun q hq e2 => ?_) (fun h => ?_))
        · subst e2
          rw [rbAt_in x3 x4 hq] at h1
          exact g_reti k120_44 rfl (h1)
        · rw [rbAt_out x3 k h] at h1
          exact g_reti k120_44 rfl (h1)
      · have e9 : rbAt im (ch b) (im 395 (ch b)) a2 = im 395 (ch b) := if_pos k
        rw [e9] at h1
        refine g_aload_n k120_19 rfl ?_
        refine g_getr k120_20 (sM371) (by decide) (mo_size hO) ?_
        refine g_aload_n k120_23 rfl ?_
        refine g_getr k120_24 (sM371) (by decide) (mo_chained hO) ?_
        refine g_iload_n k120_27 rfl ?_
        refine g_ialv (v := nI (ch b)) k120_28 (sM401) (by omega) (by decide) (x1) ?_
        refine g_ialv k120_29 (sM395) (x2) (by decide) (rfl) ?_
        refine g_goto k120_30 ?_
        exact g_reti k120_44 rfl (h1)
    · refine g_iconst (v := -1) k120_12 ic_m1 ?_
      exact g_reti k120_13 rfl (h0 (fun b2 k2 => w_out (by omega) k2.1 (Or.inr (Int32.not_lt.mp d)) k2.2))

set_option maxRecDepth 20000 in
set_option maxHeartbeats 4000000 in
theorem y17 {LS : Nat} {rm : Nat → Nat → Option Nat} {im : Nat → Nat → Int32} {P : Option Value → (Nat → Nat → Int32) → Prop} {a1 a2 a3 : Int32} {n sz : Nat → Nat} {g : Nat → Nat → Nat} (hO : isMo LS rm) (hn : ∀ o, o < 3 → im 400 o = nI (n o) ∧ n o ≤ 40) (hg : ∀ o, o < 3 → ∀ i, i < n o → im 399 (40 * o + i) = nI (g o i) ∧ g o i < 60 ∧ im 395 (g o i) = nI (sz (g o i)) ∧ sz (g o i) ≤ 4) (h1 : ∀ o b, o < 3 → b < n o → a1 = nI o → a2 = nI b → P (some (.int (rbAt im (g o b) (im 396 (g o b)) a3))) im) (h0 : (∀ o b, ¬ (o < 3 ∧ b < n o ∧ a1 = nI o ∧ a2 = nI b)) → P (some (.int (-1))) im) : Gm LS rm 121 0 (en_in 121 [.ref 371, .int a1, .int a2, .int a3]) [] im P := by
  show Gm LS rm 121 0 [.ref (371), .int (a1), .int (a2), .int (a3), .long 0] [] im P
  refine g_aload_n k121_0 rfl ?_
  refine g_iload_n k121_1 rfl ?_
  refine g_inv1 k121_2 (sM371) rfl (by decide) (Nat.le_of_ble_eq_true rfl) (c106 (fun o ho e => ?_) (fun h => ?_))
  · subst e
    obtain ⟨y1, y2⟩ := hn o ho
    refine g_if_eq k121_5 (fun h9 => absurd h9 (by decide)) (fun _ => ?_)
    refine g_iload_n k121_8 rfl ?_
    refine g_if_lt k121_9 (fun k => ?_) (fun k => ?_)
    · refine g_iconst (v := -1) k121_22 ic_m1 ?_
      exact g_reti k121_23 rfl (h0 (fun o2 b2 k2 => by obtain ⟨q1, q2, q3, q4⟩ := k2; have z1 := nI_inj q3 (by omega) (by omega); subst z1; exact w_out (by omega) q2 (Or.inl k) q4))
    · refine g_iload_n k121_12 rfl ?_
      refine g_aload_n k121_13 rfl ?_
      refine g_getr k121_14 (sM371) (by decide) (mo_logged hO) ?_
      refine g_iload_n k121_17 rfl ?_
      refine g_ialv (v := nI (n o)) k121_18 (sM400) (ho) (by decide) (y1) ?_
      refine g_icmp_lt k121_19 (fun d => ?_) (fun d => ?_)
      · obtain ⟨b, hb, e⟩ := w_in (by omega) (Int32.not_lt.mp k) d
        subst e
        obtain ⟨x1, x2, x3, x4⟩ := hg o ho b hb
        have h1 := h1 o b ho hb rfl rfl
        refine g_aload_n k121_24 rfl ?_
        refine g_getr k121_25 (sM371) (by decide) (mo_logs hO) ?_
        refine g_bipush (v := 40) k121_28 bp_40 ?_
        refine g_iload_n k121_30 rfl ?_
        refine g_imul k121_31 ?_
        refine g_iload_n k121_32 rfl ?_
        refine g_iadd k121_33 ?_
        refine g_top (y := nI (40 * o + b)) (by rw [show (40 : Int32) = nI 40 from rfl, pk_mul, nI_add]) ?_
        refine g_ialv (v := nI (g o b)) k121_34 (sM399) (by omega) (by decide) (x1) ?_
        refine g_istore k121_35 (by decide) rfl ?_
        refine g_iload_n k121_37 rfl ?_
        refine g_iconst (v := -1) k121_38 ic_m1 ?_
        refine g_icmp_ne k121_39 (fun j => ?_) (fun j => ?_)
        · refine g_aload_n k121_52 rfl ?_
          refine g_iload k121_53 rfl ?_
          refine g_iload_n k121_55 rfl ?_
          refine g_inv2 k121_56 (sM371) rfl rfl (by decide) (Nat.le_of_ble_eq_true rfl) (c119 hO x2 x3 x4 (fun q hq e2 => ?_) (fun h => ?_))
          · subst e2
            rw [rbAt_in x3 x4 hq] at h1
            exact g_reti k121_59 rfl (h1)
          · rw [rbAt_out x3 j h] at h1
            exact g_reti k121_59 rfl (h1)
        · have e9 : rbAt im (g o b) (im 396 (g o b)) a3 = im 396 (g o b) := if_pos j
          rw [e9] at h1
          refine g_aload_n k121_42 rfl ?_
          refine g_getr k121_43 (sM371) (by decide) (mo_cutIn hO) ?_
          refine g_iload k121_46 rfl ?_
          refine g_ialv k121_48 (sM396) (x2) (by decide) (rfl) ?_
          refine g_goto k121_49 ?_
          exact g_reti k121_59 rfl (h1)
      · refine g_iconst (v := -1) k121_22 ic_m1 ?_
        exact g_reti k121_23 rfl (h0 (fun o2 b2 k2 => by obtain ⟨q1, q2, q3, q4⟩ := k2; have z1 := nI_inj q3 (by omega) (by omega); subst z1; exact w_out (by omega) q2 (Or.inr (Int32.not_lt.mp d)) q4))
  · refine g_if_eq k121_5 (fun _ => ?_) (fun h9 => absurd (by decide) h9)
    refine g_iconst (v := -1) k121_22 ic_m1 ?_
    exact g_reti k121_23 rfl (h0 (fun o2 b2 k2 => w_out (by decide) k2.1 h k2.2.2.1))

set_option maxRecDepth 20000 in
set_option maxHeartbeats 4000000 in
theorem c94 {LS : Nat} {rm : Nat → Nat → Option Nat} {im : Nat → Nat → Int32} {P : Option Value → (Nat → Nat → Int32) → Prop} {d : Nat} {x : Int32} (hO : isMo LS rm) (hd : im 371 22 = nI d) (hb : d ≤ 8) (h0 : d = 8 → P none (en_u2 im 371 23 1)) (h1 : d < 8 → P none (en_u2 (en_u2 im 392 d x) 371 22 (nI (d + 1)))) : Gm LS rm 94 0 (en_in 94 [.ref 371, .int x]) [] im P := by
  show Gm LS rm 94 0 [.ref (371), .int (x)] [] im P
  refine g_aload_n k94_0 rfl ?_
  refine g_getv (v := nI d) k94_1 (sM371) (by decide) (hd) ?_
  refine g_bipush (v := 8) k94_4 bp_8 ?_
  refine g_icmp_ne k94_6 (fun h => ?_) (fun h => ?_)
  · have hlt : d < 8 := by have : d ≠ 8 := fun z => h (by rw [z]; rfl); omega
    refine g_aload_n k94_15 rfl ?_
    refine g_getr k94_16 (sM371) (by decide) (mo_stack hO) ?_
    refine g_aload_n k94_19 rfl ?_
    refine g_getv (v := nI d) k94_20 (sM371) (by decide) (hd) ?_
    refine g_iload_n k94_23 rfl ?_
    refine g_iasv k94_24 (sM392) (hlt) (by decide) ?_
    refine g_aload_n k94_25 rfl ?_
    refine g_dup k94_26 rfl ?_
    refine g_getv (v := nI d) k94_27 (sM371) (by decide) (by simp [en_u2, hd]) ?_
    refine g_iconst (v := 1) k94_30 ic_1 ?_
    refine g_iadd k94_31 ?_
    refine g_top (y := nI (d + 1)) (nI_1 d) ?_
    refine g_puti k94_32 (by decide) (sM371) (by decide) ?_
    exact g_retv k94_35 rfl (h1 hlt)
  · refine g_aload_n k94_9 rfl ?_
    refine g_iconst (v := 1) k94_10 ic_1 ?_
    refine g_putz k94_11 (by decide) (sM371) (by decide) (by decide) ?_
    exact g_retv k94_14 rfl (h0 (nI_inj (b := 8) h (by omega) (by decide)))

set_option maxRecDepth 20000 in
set_option maxHeartbeats 4000000 in
theorem c93 {LS : Nat} {rm : Nat → Nat → Option Nat} {im : Nat → Nat → Int32} {P : Option Value → (Nat → Nat → Int32) → Prop} {d : Nat} (hO : isMo LS rm) (hd : im 371 22 = nI d) (hb : d ≤ 8) (h0 : d = 0 → P (some (.int 0)) (en_u2 im 371 23 1)) (h1 : 0 < d → P (some (.int (im 392 (d - 1)))) (en_u2 im 371 22 (nI (d - 1)))) : Gm LS rm 93 0 (en_in 93 [.ref 371]) [] im P := by
  show Gm LS rm 93 0 [.ref (371)] [] im P
  refine g_aload_n k93_0 rfl ?_
  refine g_getv (v := nI d) k93_1 (sM371) (by decide) (hd) ?_
  refine g_if_ne k93_4 (fun h => ?_) (fun h => ?_)
  · have hlt : 0 < d := Nat.pos_of_ne_zero (fun z => h (by rw [z]; rfl))
    refine g_aload_n k93_14 rfl ?_
    refine g_dup k93_15 rfl ?_
    refine g_getv (v := nI d) k93_16 (sM371) (by decide) (hd) ?_
    refine g_iconst (v := 1) k93_19 ic_1 ?_
    refine g_isub k93_20 ?_
    refine g_top (y := nI (d - 1)) (nI_m1 hlt) ?_
    refine g_puti k93_21 (by decide) (sM371) (by decide) ?_
    refine g_aload_n k93_24 rfl ?_
    refine g_getr k93_25 (sM371) (by decide) (mo_stack hO) ?_
    refine g_aload_n k93_28 rfl ?_
    refine g_getv (v := nI (d - 1)) k93_29 (sM371) (by decide) (u2_eq) ?_
    refine g_ialv (v := im 392 (d - 1)) k93_32 (sM392) (by omega) (by decide) (by simp [en_u2]) ?_
    exact g_reti k93_33 rfl (h1 hlt)
  · refine g_aload_n k93_7 rfl ?_
    refine g_iconst (v := 1) k93_8 ic_1 ?_
    refine g_putz k93_9 (by decide) (sM371) (by decide) (by decide) ?_
    refine g_iconst (v := 0) k93_12 ic_0 ?_
    exact g_reti k93_13 rfl (h0 (nI_inj (b := 0) h (by omega) (by decide)))

def supR (im : Nat → Nat → Int32) (n t : Nat → Nat) (o i : Nat) : Bool := decide (im 397 i = 0) && !decide (t o < t i ∨ (t i = t o ∧ n o < n i))
def upR (im : Nat → Nat → Int32) (i : Nat) : Bool := decide (im 397 i = 0)
def erN (im : Nat → Nat → Int32) (v : Int32) : Nat → (Nat → Nat → Int32)
  | 0 => im
  | i + 1 => if im 397 i = 0 then en_u2 (erN im v i) 398 i v else en_u2 (erN im v i) 398 i (im 398 i)
theorem erN_c {im : Nat → Nat → Int32} {v : Int32} {c : Nat} (h : c ≠ 398) : ∀ i, erN im v i c = im c := by
  intro i
  induction i with
  | zero => rfl
  | succ i ih =>
    unfold erN
    split
    · rw [en_u2_off h]; exact ih
    · rw [en_u2_off h]; exact ih
theorem erN_k {im : Nat → Nat → Int32} {v : Int32} {k : Nat} : ∀ i, i ≤ k → erN im v i 398 k = im 398 k := by
  intro i
  induction i with
  | zero => intro _; rfl
  | succ i ih =>
    intro hk
    unfold erN
    split
    · rw [u2_ne (by omega)]; exact ih (by omega)
    · rw [u2_ne (by omega)]; exact ih (by omega)
set_option maxRecDepth 20000 in
set_option maxHeartbeats 4000000 in
theorem l109b {LS : Nat} {rm : Nat → Nat → Option Nat} {im : Nat → Nat → Int32} {P : Option Value → (Nat → Nat → Int32) → Prop} {o tp : Nat} (hO : isMo LS rm) (htp : tp ≤ 100000) (h1 : P (some (.int (nI (tp + 1)))) (erN im (nI (tp + 1)) 3)) : ∀ (n i : Nat), i + n = 3 → ∀ (u : Value), Gm LS rm 109 114 [.ref (371), .int (nI o), u, .int (nI tp), .int (nI i)] [] (erN im (nI (tp + 1)) i) P := by
  intro n
  induction n with
  | zero =>
    intro i hi u
    have hie : i = 3 := by omega
    subst hie
    refine g_iload k109_114 rfl ?_
    refine g_iconst (v := 3) k109_116 ic_3 ?_
    refine g_icmp_ge k109_117 (fun _ => ?_) (fun h9 => absurd (nI_le (Nat.le_refl _) (by decide)) h9)
    refine g_iload_n k109_156 rfl ?_
    refine g_iconst (v := 1) k109_157 ic_1 ?_
    refine g_iadd k109_158 ?_
    refine g_top (y := nI (tp + 1)) (nI_1 tp) ?_
    exact g_reti k109_159 rfl (h1)
  | succ n ih =>
    intro i hi u
    have hlt : i < 3 := by omega
    refine g_iload k109_114 rfl ?_
    refine g_iconst (v := 3) k109_116 ic_3 ?_
    refine g_icmp_ge k109_117 (fun h9 => absurd h9 (nI_ge hlt (by decide))) (fun _ => ?_)
    refine g_aload_n k109_120 rfl ?_
    refine g_getr k109_121 (sM371) (by decide) (mo_term hO) ?_
    refine g_iload k109_124 rfl ?_
    refine g_aload_n k109_126 rfl ?_
    refine g_getr k109_127 (sM371) (by decide) (mo_off hO) ?_
    refine g_iload k109_130 rfl ?_
    refine g_zalv (v := im 397 i) k109_132 (sM397) (hlt) (by decide) (by rw [erN_c (by omega)]) ?_
    refine g_if_eq k109_133 (fun h => ?_) (fun h => ?_)
    · refine g_iload_n k109_146 rfl ?_
      refine g_iconst (v := 1) k109_147 ic_1 ?_
      refine g_iadd k109_148 ?_
      refine g_top (y := nI (tp + 1)) (nI_1 tp) ?_
      refine g_iasv k109_149 (sM398) (hlt) (by decide) ?_
      refine g_iincv (y := nI (i + 1)) k109_150 rfl (by decide) (inc_1 i) rfl ?_
      refine g_goto k109_153 ?_
      have e1 : erN im (nI (tp + 1)) (i + 1) = en_u2 (erN im (nI (tp + 1)) i) 398 i (nI (tp + 1)) := if_pos h
      have := ih (i + 1) (by omega) u
      rw [e1] at this
      exact this
    · refine g_aload_n k109_136 rfl ?_
      refine g_getr k109_137 (sM371) (by decide) (mo_term hO) ?_
      refine g_iload k109_140 rfl ?_
      refine g_ialv (v := im 398 i) k109_142 (sM398) (hlt) (by decide) (erN_k i (Nat.le_refl _)) ?_
      refine g_goto k109_143 ?_
      refine g_iasv k109_149 (sM398) (hlt) (by decide) ?_
      refine g_iincv (y := nI (i + 1)) k109_150 rfl (by decide) (inc_1 i) rfl ?_
      refine g_goto k109_153 ?_
      have e1 : erN im (nI (tp + 1)) (i + 1) = en_u2 (erN im (nI (tp + 1)) i) 398 i (im 398 i) := if_neg h
      have := ih (i + 1) (by omega) u
      rw [e1] at this
      exact this

set_option maxRecDepth 20000 in
set_option maxHeartbeats 4000000 in
theorem l109a {LS : Nat} {rm : Nat → Nat → Option Nat} {im : Nat → Nat → Int32} {P : Option Value → (Nat → Nat → Int32) → Prop} {o : Nat} {n t tm : Nat → Nat} (hO : isMo LS rm) (ho : o < 3) (hT : ∀ i, i < 3 → isLR im i (n i) (t i)) (hm : ∀ i, i < 3 → im 398 i = nI (tm i) ∧ tm i ≤ 100000) (h1 : 2 ≤ cntB (supR im n t o) 3 → P (some (.int (nI (gtN (upR im) tm 3 + 1)))) (erN (en_u2 im 371 34 (nI o)) (nI (gtN (upR im) tm 3 + 1)) 3)) (h0 : ¬ 2 ≤ cntB (supR im n t o) 3 → P (some (.int (-1))) im) : ∀ (rr i : Nat), i + rr = 3 → Gm LS rm 109 26 [.ref (371), .int (nI o), .int (nI (cntB (supR im n t o) i)), .int (nI (gtN (upR im) tm i)), .int (nI i)] [] (im) P := by
  intro rr
  induction rr with
  | zero =>
    intro i hi
    have hie : i = 3 := by omega
    subst hie
    refine g_iload k109_26 rfl ?_
    refine g_iconst (v := 3) k109_28 ic_3 ?_
    refine g_icmp_ge k109_29 (fun _ => ?_) (fun h9 => absurd (nI_le (Nat.le_refl _) (by decide)) h9)
    have hle := cntB_le (supR im n t o) 3
    have hgb : gtN (upR im) tm 3 ≤ 100000 := gtN_le 3 (fun j hj => (hm j (by omega)).2)
    refine g_iload_n k109_99 rfl ?_
    refine g_iconst (v := 2) k109_100 ic_2 ?_
    refine g_icmp_ge k109_101 (fun d => ?_) (fun d => ?_)
    · refine g_aload_n k109_106 rfl ?_
      refine g_iload_n k109_107 rfl ?_
      refine g_puti k109_108 (by decide) (sM371) (by decide) ?_
      refine g_iconst (v := 0) k109_111 ic_0 ?_
      refine g_istore k109_112 (by decide) rfl ?_
      exact l109b hO hgb (h1 ((nI_leI (a := 2) (by decide) (by omega)).mp d)) 3 0 (by omega) _
    · refine g_iconst (v := -1) k109_104 ic_m1 ?_
      exact g_reti k109_105 rfl (h0 (fun z => d (nI_le (a := 2) z (by omega))))
  | succ rr ih =>
    intro i hi
    have hlt : i < 3 := by omega
    refine g_iload k109_26 rfl ?_
    refine g_iconst (v := 3) k109_28 ic_3 ?_
    refine g_icmp_ge k109_29 (fun h9 => absurd h9 (nI_ge hlt (by decide))) (fun _ => ?_)
    refine g_iload_n k109_32 rfl ?_
    refine g_aload_n k109_33 rfl ?_
    refine g_getr k109_34 (sM371) (by decide) (mo_off hO) ?_
    refine g_iload k109_37 rfl ?_
    refine g_zalv k109_39 (sM397) (hlt) (by decide) (rfl) ?_
    refine g_if_ne k109_40 (fun h => ?_) (fun h => ?_)
    · refine g_iconst (v := 0) k109_57 ic_0 ?_
      refine g_iadd k109_58 ?_
      refine g_top (y := nI (cntB (supR im n t o) i)) (by rw [show (0 : Int32) = nI 0 from rfl, nI_add, Nat.add_zero]) ?_
      have e1 : cntB (supR im n t o) (i + 1) = cntB (supR im n t o) i := congrArg (fun z => cntB (supR im n t o) i + z) (if_neg (by simp [supR, h]))
      have hgb : gtN (upR im) tm i ≤ 100000 := gtN_le i (fun j hj => (hm j (by omega)).2)
      obtain ⟨m1, m2⟩ := hm i hlt
      refine g_istore_n k109_59 (by decide) rfl ?_
      refine g_aload_n k109_60 rfl ?_
      refine g_getr k109_61 (sM371) (by decide) (mo_off hO) ?_
      refine g_iload k109_64 rfl ?_
      refine g_zalv k109_66 (sM397) (hlt) (by decide) (rfl) ?_
      refine g_if_ne k109_67 (fun _ => ?_) (fun h9 => absurd h9 (h))
      refine g_iload_n k109_91 rfl ?_
      refine g_istore_n k109_92 (by decide) rfl ?_
      refine g_iincv (y := nI (i + 1)) k109_93 rfl (by decide) (inc_1 i) rfl ?_
      refine g_goto k109_96 ?_
      have e2 : gtN (upR im) tm (i + 1) = gtN (upR im) tm i := if_neg (by simp [upR, h])
      have := ih (i + 1) (by omega)
      rw [e1, e2] at this
      exact this
    · refine g_aload_n k109_43 rfl ?_
      refine g_iload k109_44 rfl ?_
      refine g_iload_n k109_46 rfl ?_
      refine g_inv2 k109_47 (sM371) rfl rfl (by decide) (Nat.le_of_ble_eq_true rfl) (c108 hO hlt ho (hT i hlt) (hT o ho) (fun hw => ?_) (fun hw => ?_))
      · refine g_if_ne k109_50 (fun _ => ?_) (fun h9 => absurd h9 (by decide))
        refine g_iconst (v := 0) k109_57 ic_0 ?_
        refine g_iadd k109_58 ?_
        refine g_top (y := nI (cntB (supR im n t o) i)) (by rw [show (0 : Int32) = nI 0 from rfl, nI_add, Nat.add_zero]) ?_
        have e1 : cntB (supR im n t o) (i + 1) = cntB (supR im n t o) i := congrArg (fun z => cntB (supR im n t o) i + z) (if_neg (by simp only [supR, hw]; simp))
        have hgb : gtN (upR im) tm i ≤ 100000 := gtN_le i (fun j hj => (hm j (by omega)).2)
        obtain ⟨m1, m2⟩ := hm i hlt
        refine g_istore_n k109_59 (by decide) rfl ?_
        refine g_aload_n k109_60 rfl ?_
        refine g_getr k109_61 (sM371) (by decide) (mo_off hO) ?_
        refine g_iload k109_64 rfl ?_
        refine g_zalv k109_66 (sM397) (hlt) (by decide) (rfl) ?_
        refine g_if_ne k109_67 (fun h9 => absurd (h) h9) (fun _ => ?_)
        refine g_aload_n k109_70 rfl ?_
        refine g_getr k109_71 (sM371) (by decide) (mo_term hO) ?_
        refine g_iload k109_74 rfl ?_
        refine g_ialv (v := nI (tm i)) k109_76 (sM398) (hlt) (by decide) (m1) ?_
        refine g_iload_n k109_77 rfl ?_
        refine g_icmp_le k109_78 (fun g => ?_) (fun g => ?_)
        · refine g_iload_n k109_91 rfl ?_
          refine g_istore_n k109_92 (by decide) rfl ?_
          refine g_iincv (y := nI (i + 1)) k109_93 rfl (by decide) (inc_1 i) rfl ?_
          refine g_goto k109_96 ?_
          have e2 : gtN (upR im) tm (i + 1) = gtN (upR im) tm i := (if_pos (decide_eq_true h)).trans (Nat.max_eq_left ((nI_leI (by omega) (by omega)).mp g))
          have := ih (i + 1) (by omega)
          rw [e1, e2] at this
          exact this
        · refine g_aload_n k109_81 rfl ?_
          refine g_getr k109_82 (sM371) (by decide) (mo_term hO) ?_
          refine g_iload k109_85 rfl ?_
          refine g_ialv (v := nI (tm i)) k109_87 (sM398) (hlt) (by decide) (m1) ?_
          refine g_goto k109_88 ?_
          refine g_istore_n k109_92 (by decide) rfl ?_
          refine g_iincv (y := nI (i + 1)) k109_93 rfl (by decide) (inc_1 i) rfl ?_
          refine g_goto k109_96 ?_
          have e2 : gtN (upR im) tm (i + 1) = tm i := (if_pos (decide_eq_true h)).trans (Nat.max_eq_right (Nat.le_of_lt (Nat.not_le.mp (fun z => g (nI_le z (by omega))))))
          have := ih (i + 1) (by omega)
          rw [e1, e2] at this
          exact this
      · refine g_if_ne k109_50 (fun h9 => absurd (by decide) h9) (fun _ => ?_)
        refine g_iconst (v := 1) k109_53 ic_1 ?_
        refine g_goto k109_54 ?_
        refine g_iadd k109_58 ?_
        refine g_top (y := nI (cntB (supR im n t o) i + 1)) (nI_1 _) ?_
        have e1 : cntB (supR im n t o) (i + 1) = cntB (supR im n t o) i + 1 := congrArg (fun z => cntB (supR im n t o) i + z) (if_pos (by simp only [supR, hw]; simp [h]))
        have hgb : gtN (upR im) tm i ≤ 100000 := gtN_le i (fun j hj => (hm j (by omega)).2)
        obtain ⟨m1, m2⟩ := hm i hlt
        refine g_istore_n k109_59 (by decide) rfl ?_
        refine g_aload_n k109_60 rfl ?_
        refine g_getr k109_61 (sM371) (by decide) (mo_off hO) ?_
        refine g_iload k109_64 rfl ?_
        refine g_zalv k109_66 (sM397) (hlt) (by decide) (rfl) ?_
        refine g_if_ne k109_67 (fun h9 => absurd (h) h9) (fun _ => ?_)
        refine g_aload_n k109_70 rfl ?_
        refine g_getr k109_71 (sM371) (by decide) (mo_term hO) ?_
        refine g_iload k109_74 rfl ?_
        refine g_ialv (v := nI (tm i)) k109_76 (sM398) (hlt) (by decide) (m1) ?_
        refine g_iload_n k109_77 rfl ?_
        refine g_icmp_le k109_78 (fun g => ?_) (fun g => ?_)
        · refine g_iload_n k109_91 rfl ?_
          refine g_istore_n k109_92 (by decide) rfl ?_
          refine g_iincv (y := nI (i + 1)) k109_93 rfl (by decide) (inc_1 i) rfl ?_
          refine g_goto k109_96 ?_
          have e2 : gtN (upR im) tm (i + 1) = gtN (upR im) tm i := (if_pos (decide_eq_true h)).trans (Nat.max_eq_left ((nI_leI (by omega) (by omega)).mp g))
          have := ih (i + 1) (by omega)
          rw [e1, e2] at this
          exact this
        · refine g_aload_n k109_81 rfl ?_
          refine g_getr k109_82 (sM371) (by decide) (mo_term hO) ?_
          refine g_iload k109_85 rfl ?_
          refine g_ialv (v := nI (tm i)) k109_87 (sM398) (hlt) (by decide) (m1) ?_
          refine g_goto k109_88 ?_
          refine g_istore_n k109_92 (by decide) rfl ?_
          refine g_iincv (y := nI (i + 1)) k109_93 rfl (by decide) (inc_1 i) rfl ?_
          refine g_goto k109_96 ?_
          have e2 : gtN (upR im) tm (i + 1) = tm i := (if_pos (decide_eq_true h)).trans (Nat.max_eq_right (Nat.le_of_lt (Nat.not_le.mp (fun z => g (nI_le z (by omega))))))
          have := ih (i + 1) (by omega)
          rw [e1, e2] at this
          exact this

set_option maxRecDepth 20000 in
set_option maxHeartbeats 4000000 in
theorem y6 {LS : Nat} {rm : Nat → Nat → Option Nat} {im : Nat → Nat → Int32} {P : Option Value → (Nat → Nat → Int32) → Prop} {a1 : Int32} {n t tm : Nat → Nat} (hO : isMo LS rm) (hT : ∀ i, i < 3 → isLR im i (n i) (t i)) (hm : ∀ i, i < 3 → im 398 i = nI (tm i) ∧ tm i ≤ 100000) (h1 : ∀ o, o < 3 → a1 = nI o → im 397 o = 0 → 2 ≤ cntB (supR im n t o) 3 → P (some (.int (nI (gtN (upR im) tm 3 + 1)))) (erN (en_u2 im 371 34 (nI o)) (nI (gtN (upR im) tm 3 + 1)) 3)) (h0 : (∀ o, ¬ (o < 3 ∧ a1 = nI o ∧ im 397 o = 0 ∧ 2 ≤ cntB (supR im n t o) 3)) → P (some (.int (-1))) im) : Gm LS rm 109 0 (en_in 109 [.ref 371, .int a1]) [] im P := by
  show Gm LS rm 109 0 [.ref (371), .int (a1), .long 0, .long 0, .long 0] [] im P
  refine g_aload_n k109_0 rfl ?_
  refine g_iload_n k109_1 rfl ?_
  refine g_inv1 k109_2 (sM371) rfl (by decide) (Nat.le_of_ble_eq_true rfl) (c106 (fun o ho e => ?_) (fun h => ?_))
  · subst e
    refine g_if_eq k109_5 (fun h9 => absurd h9 (by decide)) (fun _ => ?_)
    refine g_aload_n k109_8 rfl ?_
    refine g_getr k109_9 (sM371) (by decide) (mo_off hO) ?_
    refine g_iload_n k109_12 rfl ?_
    refine g_zalv k109_13 (sM397) (ho) (by decide) (rfl) ?_
    refine g_if_eq k109_14 (fun g => ?_) (fun g => ?_)
    · refine g_iconst (v := 0) k109_19 ic_0 ?_
      refine g_istore_n k109_20 (by decide) rfl ?_
      refine g_iconst (v := 0) k109_21 ic_0 ?_
      refine g_istore_n k109_22 (by decide) rfl ?_
      refine g_iconst (v := 0) k109_23 ic_0 ?_
      refine g_istore k109_24 (by decide) rfl ?_
      exact l109a hO ho hT hm (h1 o ho rfl g) (fun z => h0 (fun o2 k2 => by obtain ⟨q1, q2, q3, q4⟩ := k2; have := nI_inj q2 (by omega) (by omega); subst this; exact z q4)) 3 0 (by omega)
    · refine g_iconst (v := -1) k109_17 ic_m1 ?_
      exact g_reti k109_18 rfl (h0 (fun o2 k2 => by obtain ⟨q1, q2, q3, q4⟩ := k2; have := nI_inj q2 (by omega) (by omega); subst this; exact g q3))
  · refine g_if_eq k109_5 (fun _ => ?_) (fun h9 => absurd (by decide) h9)
    refine g_iconst (v := -1) k109_17 ic_m1 ?_
    exact g_reti k109_18 rfl (h0 (fun o2 k2 => w_out (by decide) k2.1 h k2.2.1))

