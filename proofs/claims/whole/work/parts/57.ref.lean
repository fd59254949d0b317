set_option maxRecDepth 20000 in
set_option maxHeartbeats 4000000 in
theorem y14 {LS : Nat} {rm : Nat → Nat → Option Nat} {im : Nat → Nat → Int32} {P : Option Value → (Nat → Nat → Int32) → Prop} {a1 a2 a3 : Int32} {st : Nat → Nat} (hO : isMo LS rm) (hst : ∀ p, p < 4 → im 403 p = nI (st p) ∧ st p ≤ 40) (hG : ∀ p, p < 4 → okG im (st p)) (h1 : ∀ p k, p < 4 → k < 16 → a1 = nI p → a2 = nI k → im 402 p = 0 → a3 = 0 → ∀ m, GR im m (gCh im (im 407) (st p)) → P (some (.int ((gCh im (im 407) (st p)).1 k))) m) (h2 : ∀ p k, p < 4 → k < 16 → a1 = nI p → a2 = nI k → im 402 p = 0 → a3 = 1 → ∀ m, GR im m (gCh im (im 407) (st p)) → P (some (.int ((gCh im (im 407) (st p)).2.1 k))) m) (h0 : (∀ p k, ¬ (p < 4 ∧ k < 16 ∧ a1 = nI p ∧ a2 = nI k ∧ im 402 p = 0 ∧ (a3 = 0 ∨ a3 = 1))) → P (some (.int (-1))) im) : Gm LS rm 117 0 (en_in 117 [.ref 371, .int a1, .int a2, .int a3]) [] im P := by
  show Gm LS rm 117 0 [.ref (371), .int (a1), .int (a2), .int (a3)] [] im P
  refine g_aload_n k117_0 rfl ?_
  refine g_iload_n k117_1 rfl ?_
  refine g_inv1 k117_2 (sM371) rfl (by decide) (Nat.le_of_ble_eq_true rfl) (c102 hO (fun p hp e hu => ?_) (fun h => ?_))
  · subst e
    obtain ⟨s1, s2⟩ := hst p hp
    refine g_if_eq k117_5 (fun h9 => absurd h9 (by decide)) (fun _ => ?_)
    refine g_iload_n k117_8 rfl ?_
    refine g_iconst (v := 0) k117_9 ic_0 ?_
    refine g_bipush (v := 15) k117_10 bp_15 ?_
    refine g_invS3 k117_12 rfl rfl rfl (by decide) (Nat.le_of_ble_eq_true rfl) (c87n 15 (by decide) (fun k hk e2 => ?_) (fun h => ?_))
    · subst e2
      refine g_if_eq k117_15 (fun h9 => absurd h9 (by decide)) (fun _ => ?_)
      refine g_iload_n k117_18 rfl ?_
      refine g_iconst (v := 0) k117_19 ic_0 ?_
      refine g_iconst (v := 1) k117_20 ic_1 ?_
      refine g_invS3 k117_21 rfl rfl rfl (by decide) (Nat.le_of_ble_eq_true rfl) (c87n 1 (by decide) (fun w hw e3 => ?_) (fun h => ?_))
      · subst e3
        refine g_if_ne k117_24 (fun _ => ?_) (fun h9 => absurd h9 (by decide))
        refine g_aload_n k117_29 rfl ?_
        refine g_aload_n k117_30 rfl ?_
        refine g_getr k117_31 (sM371) (by decide) (mo_stored hO) ?_
        refine g_iload_n k117_34 rfl ?_
        refine g_ialv (v := nI (st p)) k117_35 (sM403) (hp) (by decide) (s1) ?_
        refine g_inv1 k117_36 (sM371) rfl (by decide) (Nat.le_of_ble_eq_true rfl) (c91 hO s2 (hG p hp) (fun m hg => ?_))
        refine g_iload_n k117_39 rfl ?_
        refine g_if_ne k117_40 (fun g => ?_) (fun g => ?_)
        · have w1 : w = 1 := by have : w ≠ 0 := fun z => g (by rw [z]; rfl); omega
          subst w1
          refine g_aload_n k117_52 rfl ?_
          refine g_getr k117_53 (sM371) (by decide) (mo_value hO) ?_
          refine g_iload_n k117_56 rfl ?_
          refine g_ialv (v := (gCh im (im 407) (st p)).2.1 k) k117_57 (sM405) (hk) (by decide) (hg.2.2.1 k hk) ?_
          exact g_reti k117_58 rfl (h2 p k hp hk rfl rfl hu rfl m hg)
        · have w1 : w = 0 := nI_inj (b := 0) g (by omega) (by decide)
          subst w1
          refine g_aload_n k117_43 rfl ?_
          refine g_getr k117_44 (sM371) (by decide) (mo_version hO) ?_
          refine g_iload_n k117_47 rfl ?_
          refine g_ialv (v := (gCh im (im 407) (st p)).1 k) k117_48 (sM406) (hk) (by decide) (hg.2.1 k hk) ?_
          refine g_goto k117_49 ?_
          exact g_reti k117_58 rfl (h1 p k hp hk rfl rfl hu rfl m hg)
      · refine g_if_ne k117_24 (fun h9 => absurd (by decide) h9) (fun _ => ?_)
        refine g_iconst (v := -1) k117_27 ic_m1 ?_
        exact g_reti k117_28 rfl (h0 (fun p2 k2 kk => by rcases kk.2.2.2.2.2 with z | z; exact w_out (n := 1 + 1) (q := 0) (by decide) (by decide) h z; exact w_out (n := 1 + 1) (q := 1) (by decide) (by decide) h z))
    · refine g_if_eq k117_15 (fun _ => ?_) (fun h9 => absurd (by decide) h9)
      refine g_iconst (v := -1) k117_27 ic_m1 ?_
      exact g_reti k117_28 rfl (h0 (fun p2 k2 kk => w_out (by decide) kk.2.1 h kk.2.2.2.1))
  · refine g_if_eq k117_5 (fun _ => ?_) (fun h9 => absurd (by decide) h9)
    refine g_iconst (v := -1) k117_27 ic_m1 ?_
    exact g_reti k117_28 rfl (h0 (fun p2 k2 kk => h p2 kk.1 kk.2.2.1 kk.2.2.2.2.1))

set_option maxRecDepth 20000 in
set_option maxHeartbeats 4000000 in
theorem y15 {LS : Nat} {rm : Nat → Nat → Option Nat} {im : Nat → Nat → Int32} {P : Option Value → (Nat → Nat → Int32) → Prop} {a1 a2 a3 : Int32} {st : Nat → Nat} (hO : isMo LS rm) (hst : ∀ p, p < 4 → im 403 p = nI (st p) ∧ st p ≤ 40) (hG : ∀ p, p < 4 → okG im (st p)) (h1 : ∀ p b j, p < 4 → b < st p → j < tn (im 395 (tn (im 401 b))) → a1 = nI p → a2 = nI b → a3 = nI j → im 402 p = 0 → ∀ m, GR im m (gCh im (im 407) (b + 1)) → P (some (.int ((gCh im (im 407) (b + 1)).2.2.2 j))) m) (h0 : (∀ p b j, ¬ (p < 4 ∧ b < st p ∧ j < tn (im 395 (tn (im 401 b))) ∧ a1 = nI p ∧ a2 = nI b ∧ a3 = nI j ∧ im 402 p = 0)) → P (some (.int (-1))) im) : Gm LS rm 118 0 (en_in 118 [.ref 371, .int a1, .int a2, .int a3]) [] im P := by
  show Gm LS rm 118 0 [.ref (371), .int (a1), .int (a2), .int (a3)] [] im P
  refine g_aload_n k118_0 rfl ?_
  refine g_iload_n k118_1 rfl ?_
  refine g_inv1 k118_2 (sM371) rfl (by decide) (Nat.le_of_ble_eq_true rfl) (c102 hO (fun p hp e hu => ?_) (fun h => ?_))
  · subst e
    obtain ⟨s1, s2⟩ := hst p hp
    refine g_if_eq k118_5 (fun h9 => absurd h9 (by decide)) (fun _ => ?_)
    refine g_iload_n k118_8 rfl ?_
    refine g_if_lt k118_9 (fun g => ?_) (fun g => ?_)
    · refine g_iconst (v := -1) k118_41 ic_m1 ?_
      exact g_reti k118_42 rfl (h0 (fun p2 b2 j9 kk => by obtain ⟨q1, q2, q3, q4, q5, q6, q7⟩ := kk; have z1 := nI_inj q4 (by omega) (by omega); subst z1; exact w_out (by omega) q2 (Or.inl g) q5))
    · refine g_iload_n k118_12 rfl ?_
      refine g_aload_n k118_13 rfl ?_
      refine g_getr k118_14 (sM371) (by decide) (mo_stored hO) ?_
      refine g_iload_n k118_17 rfl ?_
      refine g_ialv (v := nI (st p)) k118_18 (sM403) (hp) (by decide) (s1) ?_
      refine g_icmp_ge k118_19 (fun d => ?_) (fun d => ?_)
      · refine g_iconst (v := -1) k118_41 ic_m1 ?_
        exact g_reti k118_42 rfl (h0 (fun p2 b2 j9 kk => by obtain ⟨q1, q2, q3, q4, q5, q6, q7⟩ := kk; have z1 := nI_inj q4 (by omega) (by omega); subst z1; exact w_out (by omega) q2 (Or.inr d) q5))
      · obtain ⟨b, hb, e⟩ := w_in (by omega) (Int32.not_lt.mp g) (Int32.not_le.mp d)
        subst e
        obtain ⟨⟨x1, x2⟩, ⟨x3, x4⟩, -⟩ := hG p hp b hb
        refine g_iload_n k118_22 rfl ?_
        refine g_if_lt k118_23 (fun j1 => ?_) (fun j1 => ?_)
        · refine g_iconst (v := -1) k118_41 ic_m1 ?_
          exact g_reti k118_42 rfl (h0 (fun p2 b2 j9 kk => by obtain ⟨q1, q2, q3, q4, q5, q6, q7⟩ := kk; have z1 := nI_inj q4 (by omega) (by omega); subst z1; have z2 := nI_inj q5 (by omega) (by omega); subst z2; exact w_out (by omega) q3 (Or.inl j1) q6))
        · refine g_iload_n k118_26 rfl ?_
          refine g_aload_n k118_27 rfl ?_
          refine g_getr k118_28 (sM371) (by decide) (mo_size hO) ?_
          refine g_aload_n k118_31 rfl ?_
          refine g_getr k118_32 (sM371) (by decide) (mo_chained hO) ?_
          refine g_iload_n k118_35 rfl ?_
          refine g_ialv (v := nI (tn (im 401 b))) k118_36 (sM401) (by omega) (by decide) (x1) ?_
          refine g_ialv (v := nI (tn (im 395 (tn (im 401 b))))) k118_37 (sM395) (x2) (by decide) (x3) ?_
          refine g_icmp_lt k118_38 (fun j2 => ?_) (fun j2 => ?_)
          · obtain ⟨j, hj, e⟩ := w_in (by omega) (Int32.not_lt.mp j1) j2
            subst e
            refine g_aload_n k118_43 rfl ?_
            refine g_iload_n k118_44 rfl ?_
            refine g_iconst (v := 1) k118_45 ic_1 ?_
            refine g_iadd k118_46 ?_
            refine g_top (y := nI (b + 1)) (nI_1 b) ?_
            refine g_inv1 k118_47 (sM371) rfl (by decide) (Nat.le_of_ble_eq_true rfl) (c91 (hh := b + 1) hO (by omega) (fun i hi => hG p hp i (by omega)) (fun m hg => ?_))
            refine g_aload_n k118_50 rfl ?_
            refine g_getr k118_51 (sM371) (by decide) (mo_flags hO) ?_
            refine g_iload_n k118_54 rfl ?_
            refine g_ialv (v := (gCh im (im 407) (b + 1)).2.2.2 j) k118_55 (sM407) (by omega) (by decide) (hg.2.2.2.2 j (by omega)) ?_
            exact g_reti k118_56 rfl (h1 p b j hp hb hj rfl rfl rfl hu m hg)
          · refine g_iconst (v := -1) k118_41 ic_m1 ?_
            exact g_reti k118_42 rfl (h0 (fun p2 b2 j9 kk => by obtain ⟨q1, q2, q3, q4, q5, q6, q7⟩ := kk; have z1 := nI_inj q4 (by omega) (by omega); subst z1; have z2 := nI_inj q5 (by omega) (by omega); subst z2; exact w_out (by omega) q3 (Or.inr (Int32.not_lt.mp j2)) q6))
  · refine g_if_eq k118_5 (fun _ => ?_) (fun h9 => absurd (by decide) h9)
    refine g_iconst (v := -1) k118_41 ic_m1 ?_
    exact g_reti k118_42 rfl (h0 (fun p2 b2 j2 kk => h p2 kk.1 kk.2.2.2.1 kk.2.2.2.2.2.2))

def vcN (f : Nat → Int32) : Nat → Nat
  | 0 => 0
  | i + 1 => vcN f i + (if f i = 0 then 1 else 0)
theorem vcN_le (f : Nat → Int32) : ∀ n, vcN f n ≤ n := by
  intro n
  induction n with
  | zero => exact Nat.le_refl _
  | succ n ih => unfold vcN; split <;> omega
def dl1 (im : Nat → Nat → Int32) (p s : Nat) : Nat → Nat → Int32 := en_u2 (en_u2 im 403 p (nI (s + 1))) 404 p (nI ((s + 1) / 4 * 4))
set_option maxRecDepth 20000 in
set_option maxHeartbeats 4000000 in
theorem l113 {LS : Nat} {rm : Nat → Nat → Option Nat} {im : Nat → Nat → Int32} {P : Option Value → (Nat → Nat → Int32) → Prop} {p s sz : Nat} {f : Nat → Int32} (hO : isMo LS rm) (hp : p < 4) (hs : im 403 p = nI (s + 1)) (hs40 : s < 40) (hc : isN (im 401 s) 60) (hsz : im 395 (tn (im 401 s)) = nI sz) (hsz4 : sz ≤ 4) (hf : ∀ i, i < 4 → im 407 i = f i) (h1 : P (some (.int (nI (vcN f sz)))) im) : ∀ (n i : Nat), i + n = sz → Gm LS rm 113 63 [.ref (371), .int (nI p), .int (nI (vcN f i)), .int (nI i)] [] (im) P := by
  intro n
  induction n with
  | zero =>
    intro i hi
    have hie : sz = i := by omega
    subst hie
    refine g_iload_n k113_63 rfl ?_
    refine g_aload_n k113_64 rfl ?_
    refine g_getr k113_65 (sM371) (by decide) (mo_size hO) ?_
    refine g_aload_n k113_68 rfl ?_
    refine g_getr k113_69 (sM371) (by decide) (mo_chained hO) ?_
    refine g_aload_n k113_72 rfl ?_
    refine g_getr k113_73 (sM371) (by decide) (mo_stored hO) ?_
    refine g_iload_n k113_76 rfl ?_
    refine g_ialv (v := nI (s + 1)) k113_77 (sM403) (hp) (by decide) (hs) ?_
    refine g_iconst (v := 1) k113_78 ic_1 ?_
    refine g_isub k113_79 ?_
    refine g_top (y := nI s) (nI_pred s) ?_
    refine g_ialv (v := nI (tn (im 401 s))) k113_80 (sM401) (by omega) (by decide) (hc.1) ?_
    refine g_ialv (v := nI sz) k113_81 (sM395) (hc.2) (by decide) (hsz) ?_
    refine g_icmp_ge k113_82 (fun _ => ?_) (fun h9 => absurd (nI_le (Nat.le_refl _) (by omega)) h9)
    refine g_iload_n k113_108 rfl ?_
    exact g_reti k113_109 rfl (h1)
  | succ n ih =>
    intro i hi
    have hlt : i < sz := by omega
    refine g_iload_n k113_63 rfl ?_
    refine g_aload_n k113_64 rfl ?_
    refine g_getr k113_65 (sM371) (by decide) (mo_size hO) ?_
    refine g_aload_n k113_68 rfl ?_
    refine g_getr k113_69 (sM371) (by decide) (mo_chained hO) ?_
    refine g_aload_n k113_72 rfl ?_
    refine g_getr k113_73 (sM371) (by decide) (mo_stored hO) ?_
    refine g_iload_n k113_76 rfl ?_
    refine g_ialv (v := nI (s + 1)) k113_77 (sM403) (hp) (by decide) (hs) ?_
    refine g_iconst (v := 1) k113_78 ic_1 ?_
    refine g_isub k113_79 ?_
    refine g_top (y := nI s) (nI_pred s) ?_
    refine g_ialv (v := nI (tn (im 401 s))) k113_80 (sM401) (by omega) (by decide) (hc.1) ?_
    refine g_ialv (v := nI sz) k113_81 (sM395) (hc.2) (by decide) (hsz) ?_
    refine g_icmp_ge k113_82 (fun h9 => absurd h9 (nI_ge hlt (by omega))) (fun _ => ?_)
    refine g_iload_n k113_85 rfl ?_
    refine g_aload_n k113_86 rfl ?_
    refine g_getr k113_87 (sM371) (by decide) (mo_flags hO) ?_
    refine g_iload_n k113_90 rfl ?_
    refine g_ialv (v := f i) k113_91 (sM407) (by omega) (by decide) (hf i (by omega)) ?_
    refine g_if_ne k113_92 (fun g => ?_) (fun g => ?_)
    · refine g_iconst (v := 0) k113_99 ic_0 ?_
      refine g_iadd k113_100 ?_
      refine g_top (y := nI (vcN f i)) (by rw [show (0 : Int32) = nI 0 from rfl, nI_add, Nat.add_zero]) ?_
      refine g_istore_n k113_101 (by decide) rfl ?_
      refine g_iincv (y := nI (i + 1)) k113_102 rfl (by decide) (inc_1 i) rfl ?_
      refine g_goto k113_105 ?_
      have e1 : vcN f (i + 1) = vcN f i := congrArg (fun z => vcN f i + z) (if_neg g)
      have := ih (i + 1) (by omega)
      rw [e1] at this
      exact this
    · refine g_iconst (v := 1) k113_95 ic_1 ?_
      refine g_goto k113_96 ?_
      refine g_iadd k113_100 ?_
      refine g_top (y := nI (vcN f i + 1)) (nI_1 _) ?_
      refine g_istore_n k113_101 (by decide) rfl ?_
      refine g_iincv (y := nI (i + 1)) k113_102 rfl (by decide) (inc_1 i) rfl ?_
      refine g_goto k113_105 ?_
      have e1 : vcN f (i + 1) = vcN f i + 1 := congrArg (fun z => vcN f i + z) (if_pos g)
      have := ih (i + 1) (by omega)
      rw [e1] at this
      exact this

set_option maxRecDepth 20000 in
set_option maxHeartbeats 4000000 in
theorem y10 {LS : Nat} {rm : Nat → Nat → Option Nat} {im : Nat → Nat → Int32} {P : Option Value → (Nat → Nat → Int32) → Prop} {a1 : Int32} {c : Nat} {st : Nat → Nat} (hO : isMo LS rm) (hc : im 371 36 = nI c) (hc2 : c ≤ 40) (hst : ∀ p, p < 4 → im 403 p = nI (st p) ∧ st p ≤ c) (hG : okG im c) (h1 : ∀ p, p < 4 → a1 = nI p → im 402 p = 0 → st p < c → ∀ m, GR (dl1 im p (st p)) m (gCh (dl1 im p (st p)) (im 407) (st p + 1)) → P (some (.int (nI (vcN (gCh (dl1 im p (st p)) (im 407) (st p + 1)).2.2.2 (tn (im 395 (tn (im 401 (st p))))))))) m) (h0 : (∀ p, ¬ (p < 4 ∧ a1 = nI p ∧ im 402 p = 0 ∧ st p < c)) → P (some (.int (-1))) im) : Gm LS rm 113 0 (en_in 113 [.ref 371, .int a1]) [] im P := by
  show Gm LS rm 113 0 [.ref (371), .int (a1), .long 0, .long 0] [] im P
  refine g_aload_n k113_0 rfl ?_
  refine g_iload_n k113_1 rfl ?_
  refine g_inv1 k113_2 (sM371) rfl (by decide) (Nat.le_of_ble_eq_true rfl) (c102 hO (fun p hp e hu => ?_) (fun h => ?_))
  · subst e
    obtain ⟨s1, s2⟩ := hst p hp
    refine g_if_eq k113_5 (fun h9 => absurd h9 (by decide)) (fun _ => ?_)
    refine g_aload_n k113_8 rfl ?_
    refine g_getr k113_9 (sM371) (by decide) (mo_stored hO) ?_
    refine g_iload_n k113_12 rfl ?_
    refine g_ialv (v := nI (st p)) k113_13 (sM403) (hp) (by decide) (s1) ?_
    refine g_aload_n k113_14 rfl ?_
    refine g_getv (v := nI c) k113_15 (sM371) (by decide) (hc) ?_
    refine g_icmp_ne k113_18 (fun g => ?_) (fun g => ?_)
    · have hlt : st p < c := by have : st p ≠ c := fun z => g (by rw [z]); omega
      obtain ⟨x1, ⟨x3, x4⟩, -⟩ := hG (st p) hlt
      have x2 := x1.2
      refine g_aload_n k113_23 rfl ?_
      refine g_getr k113_24 (sM371) (by decide) (mo_stored hO) ?_
      refine g_iload_n k113_27 rfl ?_
      refine g_dup2 k113_28 rfl rfl ?_
      refine g_ialv (v := nI (st p)) k113_29 (sM403) (hp) (by decide) (s1) ?_
      refine g_iconst (v := 1) k113_30 ic_1 ?_
      refine g_iadd k113_31 ?_
      refine g_top (y := nI (st p + 1)) (nI_1 _) ?_
      refine g_iasv k113_32 (sM403) (hp) (by decide) ?_
      refine g_aload_n k113_33 rfl ?_
      refine g_getr k113_34 (sM371) (by decide) (mo_saved hO) ?_
      refine g_iload_n k113_37 rfl ?_
      refine g_aload_n k113_38 rfl ?_
      refine g_getr k113_39 (sM371) (by decide) (mo_stored hO) ?_
      refine g_iload_n k113_42 rfl ?_
      refine g_ialv (v := nI (st p + 1)) k113_43 (sM403) (hp) (by decide) (u2_eq) ?_
      refine g_iconst (v := 4) k113_44 ic_4 ?_
      refine g_idiv k113_45 (by decide) ?_
      refine g_top (y := nI ((st p + 1) / 4)) (pk_div (d := 4) (by omega) (by decide) (by decide)) ?_
      refine g_iconst (v := 4) k113_46 ic_4 ?_
      refine g_imul k113_47 ?_
      refine g_top (y := nI ((st p + 1) / 4 * 4)) (pk_mul _ 4) ?_
      refine g_iasv k113_48 (sM404) (hp) (by decide) ?_
      show Gm LS rm 113 49 _ [] (dl1 im p (st p)) P
      have dq : ∀ c, c ≠ 403 → c ≠ 404 → dl1 im p (st p) c = im c := fun c z1 z2 => by unfold dl1; rw [en_u2_off z2, en_u2_off z1]
      have d3 : dl1 im p (st p) 403 p = nI (st p + 1) := by unfold dl1; rw [u2_ne (by omega), u2_eq]
      have hG2 : okG (dl1 im p (st p)) (st p + 1) := by
        have q1 := dq 401 (by decide) (by decide)
        have q2 := dq 395 (by decide) (by decide)
        have q3 := dq 394 (by decide) (by decide)
        have q4 := dq 381 (by decide) (by decide)
        have q5 := dq 388 (by decide) (by decide)
        intro b hb
        have := hG b (by omega)
        have hRR : ∀ p2, okR im p2 → okR (dl1 im p (st p)) p2 := fun p2 hr => by
          have e1 : rR (dl1 im p (st p)) p2 = rR im p2 := by unfold rR; rw [dq 375 (by decide) (by decide)]
          have e2 : rH (dl1 im p (st p)) p2 = rH im p2 := by unfold rH; rw [dq 380 (by decide) (by decide)]
          have e4 : rN (dl1 im p (st p)) p2 = rN im p2 := by funext i; unfold rN; rw [dq 377 (by decide) (by decide)]
          have e5 : rP (dl1 im p (st p)) p2 = rP im p2 := by funext i q; unfold rP; rw [dq 378 (by decide) (by decide)]
          have e6 : rT (dl1 im p (st p)) p2 = rT im p2 := by unfold rT; rw [e2, dq 379 (by decide) (by decide)]
          unfold okR
          rw [e1, e2, e4, e5, e6, dq 375 (by decide) (by decide), dq 380 (by decide) (by decide), dq 377 (by decide) (by decide), dq 378 (by decide) (by decide), dq 379 (by decide) (by decide)]
          exact hr
        have gq : ∀ i, gT (dl1 im p (st p)) b i = gT im b i := fun i => by unfold gT; rw [q3, q1]
        obtain ⟨w1, w2, w3⟩ := this
        rw [q1, q2, q3]
        refine ⟨w1, w2, fun i hi => ?_⟩
        obtain ⟨v1, v2, v3, v4, v5, v6⟩ := w3 i hi
        rw [gq]
        refine ⟨v1, v2, ?_⟩
        rw [q4, q5]
        exact ⟨v3, v4, hRR _ v5, v6⟩
      refine g_aload_n k113_49 rfl ?_
      refine g_aload_n k113_50 rfl ?_
      refine g_getr k113_51 (sM371) (by decide) (mo_stored hO) ?_
      refine g_iload_n k113_54 rfl ?_
      refine g_ialv (v := nI (st p + 1)) k113_55 (sM403) (hp) (by decide) (d3) ?_
      refine g_inv1 k113_56 (sM371) rfl (by decide) (Nat.le_of_ble_eq_true rfl) (c91 (hh := st p + 1) hO (by omega) hG2 (fun m hg => ?_))
      refine g_iconst (v := 0) k113_59 ic_0 ?_
      refine g_istore_n k113_60 (by decide) rfl ?_
      refine g_iconst (v := 0) k113_61 ic_0 ?_
      refine g_istore_n k113_62 (by decide) rfl ?_
      have m3 : m 403 = dl1 im p (st p) 403 := hg.1 403 (by decide)
      have m1 : m 401 = im 401 := (hg.1 401 (by decide)).trans (dq 401 (by decide) (by decide))
      have m5 : m 395 = im 395 := (hg.1 395 (by decide)).trans (dq 395 (by decide) (by decide))
      have f7 : dl1 im p (st p) 407 = im 407 := dq 407 (by decide) (by decide)
      rw [f7] at hg
      exact l113 (s := st p) (sz := tn (im 395 (tn (im 401 (st p))))) (f := (gCh (dl1 im p (st p)) (im 407) (st p + 1)).2.2.2) hO hp (by rw [m3]; exact d3) (by omega) (by rw [m1]; exact x1) (by rw [m5, m1]; exact x3) (by omega) hg.2.2.2.2 (h1 p hp rfl hu hlt m hg) (tn (im 395 (tn (im 401 (st p))))) 0 (by omega)
    · refine g_iconst (v := -1) k113_21 ic_m1 ?_
      exact g_reti k113_22 rfl (h0 (fun p2 k2 => by obtain ⟨q1, q2, q3, q4⟩ := k2; have z := nI_inj q2 (by omega) (by omega); subst z; have := nI_inj g (by omega) (by omega); omega))
  · refine g_if_eq k113_5 (fun _ => ?_) (fun h9 => absurd (by decide) h9)
    refine g_iconst (v := -1) k113_21 ic_m1 ?_
    exact g_reti k113_22 rfl (h0 (fun p2 k2 => h p2 k2.1 k2.2.1 k2.2.2.1))

