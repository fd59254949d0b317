/-! A RANGE read: what is seen, and the sum *-/
theorem rgF_r {im m : Nat → Nat → Int32} {c : Nat} {g : Nat → Int32} (h : rgF im m) (hs : ∀ x, rgX c x → g x = im c x) : rgF im (en_ur m c g) := by
  intro b j hb
  by_cases z : b = c
  · subst z; rw [ur_eq]; exact hs j hb
  · rw [ur_ne z]; exact h b j hb
def rgI (lo hi k : Nat) (v : Int32) : Int32 := if lo ≤ k ∧ k ≤ hi then v else 0
def rgS (ver se : Nat → Int32) (r lo hi i : Nat) : Nat → Int32 := fun x => if 16 * (120 + r) ≤ x ∧ x < 16 * (120 + r) + i then rgI lo hi (x - 16 * (120 + r)) (ver (x - 16 * (120 + r))) else se x
def rgU (val : Nat → Int32) (lo hi : Nat) : Nat → Int32
  | 0 => 0
  | n + 1 => rgU val lo hi n + rgI lo hi n (val n)
theorem rgS_0 {ver se : Nat → Int32} {r lo hi : Nat} : rgS ver se r lo hi 0 = se := by
  funext x
  unfold rgS
  rw [if_neg (by omega)]
theorem rgS_s {ver se : Nat → Int32} {r lo hi i : Nat} {v : Int32} (hv : v = rgI lo hi i (ver i)) : (fun x => if x = 16 * (120 + r) + i then v else rgS ver se r lo hi i x) = rgS ver se r lo hi (i + 1) := by
  funext x
  unfold rgS
  by_cases hx : x = 16 * (120 + r) + i
  · subst hx
    rw [if_pos rfl, if_pos ⟨by omega, by omega⟩, show 16 * (120 + r) + i - 16 * (120 + r) = i by omega]
    exact hv
  · rw [if_neg hx]
    by_cases hy : 16 * (120 + r) ≤ x ∧ x < 16 * (120 + r) + i
    · rw [if_pos hy, if_pos ⟨hy.1, by omega⟩]
    · rw [if_neg hy, if_neg (by omega)]
theorem rgU_sm {val : Nat → Int32} {lo hi : Nat} (hl : lo < 16) (hh : hi < 16) : rgU val lo hi 16 = sm val lo (hi + 1 - lo) := by
  have z : ∀ n, n ≤ lo → rgU val lo hi n = 0 := by
    intro n
    induction n with
    | zero => intro _; rfl
    | succ n ih => intro h; show rgU val lo hi n + rgI lo hi n (val n) = 0; rw [ih (by omega)]; unfold rgI; rw [if_neg (by omega)]; rfl
  have m : ∀ n, lo + n ≤ hi + 1 → rgU val lo hi (lo + n) = sm val lo n := by
    intro n
    induction n with
    | zero => intro _; exact z lo (Nat.le_refl _)
    | succ n ih => intro h; show rgU val lo hi (lo + n) + rgI lo hi (lo + n) (val (lo + n)) = sm val lo n + val (lo + n); rw [ih (by omega)]; unfold rgI; rw [if_pos ⟨by omega, by omega⟩]
  have e : ∀ n, ∀ b, b ≤ lo + 16 → (lo ≤ hi → hi < b) → rgU val lo hi (b + n) = rgU val lo hi b ∨ ¬ lo ≤ hi := by
    intro n
    induction n with
    | zero => intro b _ _; exact Or.inl rfl
    | succ n ih =>
      intro b hb h
      by_cases w : lo ≤ hi
      · left
        show rgU val lo hi (b + n) + rgI lo hi (b + n) (val (b + n)) = _
        rcases ih b hb h with e | e
        · rw [e]; unfold rgI; rw [if_neg (by have := h w; omega)]; exact Int32.add_zero _
        · exact absurd w e
      · exact Or.inr w
  by_cases w : lo ≤ hi
  · rcases e (16 - (hi + 1)) (hi + 1) (by omega) (by omega) with q | q
    · rw [show hi + 1 + (16 - (hi + 1)) = 16 by omega] at q
      rw [q, ← m (hi + 1 - lo) (by omega), show lo + (hi + 1 - lo) = hi + 1 by omega]
    · exact absurd w q
  · have z2 : ∀ n, rgU val lo hi n = 0 := by
      intro n
      induction n with
      | zero => rfl
      | succ n ih => show rgU val lo hi n + rgI lo hi n (val n) = 0; rw [ih]; unfold rgI; rw [if_neg (by omega)]; rfl
    rw [z2, show hi + 1 - lo = 0 by omega]
    rfl
def rgA (im : Nat → Nat → Int32) (r lo hi : Nat) : Nat → Nat → Int32 := en_u2 (en_u2 (en_u2 im 388 60 (nI (r + 1))) 389 (120 + r) (if lo ≤ hi then nI lo else 1)) 390 (120 + r) (if lo ≤ hi then nI hi else 0)
def rgM (im : Nat → Nat → Int32) (r lo hi d : Nat) : Nat → Nat → Int32 := en_u2 (en_u2 (en_ur (rgA im r lo hi) 391 (rgS (im 406) (im 391) r lo hi 16)) 392 d (rgU (im 405) lo hi 16)) 371 22 (nI (d + 1))
theorem rgA_off {im : Nat → Nat → Int32} {r lo hi c : Nat} (h : c < 388 ∨ 390 < c) : rgA im r lo hi c = im c := by
  unfold rgA
  rw [en_u2_off (by omega), en_u2_off (by omega), en_u2_off (by omega)]
theorem rgI_t {lo hi k : Nat} {v : Int32} (h1 : lo ≤ k) (h2 : k ≤ hi) : rgI lo hi k v = v := by unfold rgI; rw [if_pos ⟨h1, h2⟩]
theorem rgI_f {lo hi k : Nat} {v : Int32} (h1 : ¬ (lo ≤ k ∧ k ≤ hi)) : rgI lo hi k v = 0 := by unfold rgI; rw [if_neg h1]
set_option maxRecDepth 20000 in
set_option maxHeartbeats 4000000 in
theorem l98 {LS : Nat} {rm : Nat → Nat → Option Nat} {im : Nat → Nat → Int32} {P : Option Value → (Nat → Nat → Int32) → Prop} {lo hy r d : Nat} (hO : isMo LS rm) (hlo : lo < 16) (hhi : hy < 16) (hr : r < 2) (hd : im 371 22 = nI d) (hd8 : d < 8) (h1 : P none (rgM im r lo hy d)) : ∀ (n i : Nat), i + n = 16 → Gm LS rm 98 77 [.ref (371), .int (nI lo), .int (nI hy), .int (nI (120 + r)), .int (rgU (im 405) lo hy i), .int (nI i)] [] (en_ur (rgA im r lo hy) 391 (rgS (im 406) (im 391) r lo hy i)) P := by
  intro n
  induction n with
  | zero =>
    intro i hi
    have hie : i = 16 := by omega
    subst hie
    refine g_iload k98_77 rfl ?_
    refine g_bipush (v := 16) k98_79 bp_16 ?_
    refine g_icmp_ge k98_81 (fun _ => ?_) (fun h9 => absurd (nI_le (Nat.le_refl _) (by decide)) h9)
    refine g_aload_n k98_153 rfl ?_
    refine g_iload k98_154 rfl ?_
    refine g_inv1 k98_156 (sM371) rfl (by decide) (Nat.le_of_ble_eq_true rfl) (c94 hO (d := d) (by rw [ur_ne (by decide), rgA_off (by decide)]; exact hd) (by omega) (fun z => ?_) (fun z => ?_))
    · exact absurd z (by omega)
    · exact g_retv k98_159 rfl (h1)
  | succ n ih =>
    intro i hi
    have hlt : i < 16 := by omega
    refine g_iload k98_77 rfl ?_
    refine g_bipush (v := 16) k98_79 bp_16 ?_
    refine g_icmp_ge k98_81 (fun h9 => absurd h9 (nI_ge hlt (by decide))) (fun _ => ?_)
    refine g_aload_n k98_84 rfl ?_
    refine g_getr k98_85 (sM371) (by decide) (mo_seen hO) ?_
    refine g_bipush (v := 16) k98_88 bp_16 ?_
    refine g_iload_n k98_90 rfl ?_
    refine g_imul k98_91 ?_
    refine g_top (y := nI (16 * (120 + r))) (by rw [show (16 : Int32) = nI 16 from rfl, pk_mul]) ?_
    refine g_iload k98_92 rfl ?_
    refine g_iadd k98_94 ?_
    refine g_top (y := nI (16 * (120 + r) + i)) (nI_add _ _) ?_
    refine g_iload_n k98_95 rfl ?_
    refine g_iload k98_96 rfl ?_
    refine g_icmp_gt k98_98 (fun g => ?_) (fun g => ?_)
    · have c1 : i < lo := (nI_ltI (by omega) (by omega)).mp g
      refine g_iconst (v := 0) k98_117 ic_0 ?_
      refine g_iasv k98_118 (sM391) (by omega) (by decide) ?_
      refine g_im (show _ = en_ur (rgA im r lo hy) 391 (rgS (im 406) (im 391) r lo hy (i + 1)) from by rw [ur_u2, rgS_s (v := 0) ((rgI_f (by omega)).symm)]) ?_
      refine g_iload k98_119 rfl ?_
      refine g_iload_n k98_121 rfl ?_
      refine g_iload k98_122 rfl ?_
      refine g_icmp_gt k98_124 (fun _ => ?_) (fun h9 => absurd (nI_lt c1 (by omega)) h9)
      refine g_iconst (v := 0) k98_143 ic_0 ?_
      refine g_iadd k98_144 ?_
      refine g_istore k98_145 (by decide) rfl ?_
      refine g_iincv (y := nI (i + 1)) k98_147 rfl (by decide) (inc_1 i) rfl ?_
      refine g_goto k98_150 ?_
      have := ih (i + 1) (by omega)
      rw [show rgU (im 405) lo hy (i + 1) = rgU (im 405) lo hy i + rgI lo hy i (im 405 i) from rfl, (rgI_f (by omega))] at this
      exact this
    · have c1 : lo ≤ i := Nat.not_lt.mp (fun z => g (nI_lt z (by omega)))
      refine g_iload k98_101 rfl ?_
      refine g_iload_n k98_103 rfl ?_
      refine g_icmp_gt k98_104 (fun g2 => ?_) (fun g2 => ?_)
      · have c2 : hy < i := (nI_ltI (by omega) (by omega)).mp g2
        refine g_iconst (v := 0) k98_117 ic_0 ?_
        refine g_iasv k98_118 (sM391) (by omega) (by decide) ?_
        refine g_im (show _ = en_ur (rgA im r lo hy) 391 (rgS (im 406) (im 391) r lo hy (i + 1)) from by rw [ur_u2, rgS_s (v := 0) ((rgI_f (by omega)).symm)]) ?_
        refine g_iload k98_119 rfl ?_
        refine g_iload_n k98_121 rfl ?_
        refine g_iload k98_122 rfl ?_
        refine g_icmp_gt k98_124 (fun h9 => absurd h9 (nI_ge2 c1 (by omega))) (fun _ => ?_)
        refine g_iload k98_127 rfl ?_
        refine g_iload_n k98_129 rfl ?_
        refine g_icmp_gt k98_130 (fun _ => ?_) (fun h9 => absurd (nI_lt c2 (by omega)) h9)
        refine g_iconst (v := 0) k98_143 ic_0 ?_
        refine g_iadd k98_144 ?_
        refine g_istore k98_145 (by decide) rfl ?_
        refine g_iincv (y := nI (i + 1)) k98_147 rfl (by decide) (inc_1 i) rfl ?_
        refine g_goto k98_150 ?_
        have := ih (i + 1) (by omega)
        rw [show rgU (im 405) lo hy (i + 1) = rgU (im 405) lo hy i + rgI lo hy i (im 405 i) from rfl, (rgI_f (by omega))] at this
        exact this
      · have c2 : i ≤ hy := Nat.not_lt.mp (fun z => g2 (nI_lt z (by omega)))
        refine g_aload_n k98_107 rfl ?_
        refine g_getr k98_108 (sM371) (by decide) (mo_version hO) ?_
        refine g_iload k98_111 rfl ?_
        refine g_ialv (v := im 406 i) k98_113 (sM406) (by omega) (by decide) (by rw [ur_ne (by decide), rgA_off (by decide)]) ?_
        refine g_goto k98_114 ?_
        refine g_iasv k98_118 (sM391) (by omega) (by decide) ?_
        refine g_im (show _ = en_ur (rgA im r lo hy) 391 (rgS (im 406) (im 391) r lo hy (i + 1)) from by rw [ur_u2, rgS_s (v := im 406 i) ((rgI_t c1 c2).symm)]) ?_
        refine g_iload k98_119 rfl ?_
        refine g_iload_n k98_121 rfl ?_
        refine g_iload k98_122 rfl ?_
        refine g_icmp_gt k98_124 (fun h9 => absurd h9 (nI_ge2 c1 (by omega))) (fun _ => ?_)
        refine g_iload k98_127 rfl ?_
        refine g_iload_n k98_129 rfl ?_
        refine g_icmp_gt k98_130 (fun h9 => absurd h9 (nI_ge2 c2 (by omega))) (fun _ => ?_)
        refine g_aload_n k98_133 rfl ?_
        refine g_getr k98_134 (sM371) (by decide) (mo_value hO) ?_
        refine g_iload k98_137 rfl ?_
        refine g_ialv (v := im 405 i) k98_139 (sM405) (by omega) (by decide) (by rw [ur_ne (by decide), rgA_off (by decide)]) ?_
        refine g_goto k98_140 ?_
        refine g_iadd k98_144 ?_
        refine g_istore k98_145 (by decide) rfl ?_
        refine g_iincv (y := nI (i + 1)) k98_147 rfl (by decide) (inc_1 i) rfl ?_
        refine g_goto k98_150 ?_
        have := ih (i + 1) (by omega)
        rw [show rgU (im 405) lo hy (i + 1) = rgU (im 405) lo hy i + rgI lo hy i (im 405 i) from rfl, (rgI_t c1 c2)] at this
        exact this

set_option maxRecDepth 20000 in
set_option maxHeartbeats 4000000 in
theorem c98 {LS : Nat} {rm : Nat → Nat → Option Nat} {im : Nat → Nat → Int32} {P : Option Value → (Nat → Nat → Int32) → Prop} {lo hy r d : Nat} (hO : isMo LS rm) (hlo : lo < 16) (hhi : hy < 16) (hr : im 388 60 = nI r) (hr2 : r ≤ 2) (hd : im 371 22 = nI d) (hd8 : d < 8) (h0 : r = 2 → P none (en_u2 im 371 23 1)) (h1 : r < 2 → P none (rgM im r lo hy d)) : Gm LS rm 98 0 (en_in 98 [.ref 371, .int (nI lo), .int (nI hy)]) [] im P := by
  show Gm LS rm 98 0 [.ref (371), .int (nI lo), .int (nI hy), .long 0, .long 0, .long 0] [] im P
  refine g_aload_n k98_0 rfl ?_
  refine g_getr k98_1 (sM371) (by decide) (mo_ranges hO) ?_
  refine g_bipush (v := nI 60) k98_4 bp_60 ?_
  refine g_ialv (v := nI r) k98_6 (sM388) (by decide) (by decide) (hr) ?_
  refine g_iconst (v := 2) k98_7 ic_2 ?_
  refine g_icmp_ne k98_8 (fun g => ?_) (fun g => ?_)
  · have hlt : r < 2 := by have : r ≠ 2 := fun z => g (by rw [z]; rfl); omega
    refine g_bipush (v := 120) k98_17 bp_120 ?_
    refine g_aload_n k98_19 rfl ?_
    refine g_getr k98_20 (sM371) (by decide) (mo_ranges hO) ?_
    refine g_bipush (v := 60) k98_23 bp_60 ?_
    refine g_ialv (v := nI r) k98_25 (sM388) (by decide) (by decide) (hr) ?_
    refine g_iadd k98_26 ?_
    refine g_top (y := nI (120 + r)) (nI_add 120 _) ?_
    refine g_istore_n k98_27 (by decide) rfl ?_
    refine g_aload_n k98_28 rfl ?_
    refine g_getr k98_29 (sM371) (by decide) (mo_ranges hO) ?_
    refine g_bipush (v := 60) k98_32 bp_60 ?_
    refine g_dup2 k98_34 rfl rfl ?_
    refine g_ialv (v := nI r) k98_35 (sM388) (by decide) (by decide) (hr) ?_
    refine g_iconst (v := 1) k98_36 ic_1 ?_
    refine g_iadd k98_37 ?_
    refine g_top (y := nI (r + 1)) (nI_1 _) ?_
    refine g_iasv k98_38 (sM388) (by decide) (by decide) ?_
    refine g_aload_n k98_39 rfl ?_
    refine g_getr k98_40 (sM371) (by decide) (mo_from hO) ?_
    refine g_iload_n k98_43 rfl ?_
    refine g_iload_n k98_44 rfl ?_
    refine g_iload_n k98_45 rfl ?_
    refine g_icmp_gt k98_46 (fun g2 => ?_) (fun g2 => ?_)
    · have cc : ¬ lo ≤ hy := fun z => nI_ge2 z (by omega) g2
      refine g_iconst (v := 1) k98_53 ic_1 ?_
      refine g_iasv k98_54 (sM389) (by omega) (by decide) ?_
      refine g_aload_n k98_55 rfl ?_
      refine g_getr k98_56 (sM371) (by decide) (mo_to hO) ?_
      refine g_iload_n k98_59 rfl ?_
      refine g_iload_n k98_60 rfl ?_
      refine g_iload_n k98_61 rfl ?_
      refine g_icmp_gt k98_62 (fun _ => ?_) (fun h9 => absurd (g2) h9)
      refine g_iconst (v := 0) k98_69 ic_0 ?_
      refine g_iasv k98_70 (sM390) (by omega) (by decide) ?_
      refine g_iconst (v := 0) k98_71 ic_0 ?_
      refine g_istore k98_72 (by decide) rfl ?_
      refine g_iconst (v := 0) k98_74 ic_0 ?_
      refine g_istore k98_75 (by decide) rfl ?_
      have e1 : en_ur (rgA im r lo hy) 391 (rgS (im 406) (im 391) r lo hy 0) = rgA im r lo hy := by
        rw [rgS_0, show im 391 = rgA im r lo hy 391 from (rgA_off (by decide)).symm, ur_self]
      have := l98 (im := im) (P := P) hO hlo hhi hlt hd hd8 (h1 hlt) 16 0 (by omega)
      rw [e1] at this
      unfold rgA at this
      rw [if_neg cc, if_neg cc] at this
      exact this
    · have cc : lo ≤ hy := Nat.not_lt.mp (fun z => g2 (nI_lt z (by omega)))
      refine g_iload_n k98_49 rfl ?_
      refine g_goto k98_50 ?_
      refine g_iasv k98_54 (sM389) (by omega) (by decide) ?_
      refine g_aload_n k98_55 rfl ?_
      refine g_getr k98_56 (sM371) (by decide) (mo_to hO) ?_
      refine g_iload_n k98_59 rfl ?_
      refine g_iload_n k98_60 rfl ?_
      refine g_iload_n k98_61 rfl ?_
      refine g_icmp_gt k98_62 (fun h9 => absurd h9 (g2)) (fun _ => ?_)
      refine g_iload_n k98_65 rfl ?_
      refine g_goto k98_66 ?_
      refine g_iasv k98_70 (sM390) (by omega) (by decide) ?_
      refine g_iconst (v := 0) k98_71 ic_0 ?_
      refine g_istore k98_72 (by decide) rfl ?_
      refine g_iconst (v := 0) k98_74 ic_0 ?_
      refine g_istore k98_75 (by decide) rfl ?_
      have e1 : en_ur (rgA im r lo hy) 391 (rgS (im 406) (im 391) r lo hy 0) = rgA im r lo hy := by
        rw [rgS_0, show im 391 = rgA im r lo hy 391 from (rgA_off (by decide)).symm, ur_self]
      have := l98 (im := im) (P := P) hO hlo hhi hlt hd hd8 (h1 hlt) 16 0 (by omega)
      rw [e1] at this
      unfold rgA at this
      rw [if_pos cc, if_pos cc] at this
      exact this
  · have he : r = 2 := nI_inj (b := 2) g (by omega) (by decide)
    refine g_aload_n k98_11 rfl ?_
    refine g_iconst (v := 1) k98_12 ic_1 ?_
    refine g_putz k98_13 (by decide) (sM371) (by decide) (by decide) ?_
    exact g_retv k98_16 rfl (h0 he)

