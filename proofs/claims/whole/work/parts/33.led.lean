def ws_v (c : Nat → Int32) (v : Int32) (i : Nat) (f : Nat → Int32) : Nat → Int32 := fun k => if k < i ∧ c (48 + k) ≠ 0 then (if c (48 + k) = 2 then 0 else v) else f k
def ws_w (c : Nat → Int32) (i : Nat) (g : Nat → Int32) : Nat → Int32 := fun k => if k < i ∧ c (48 + k) ≠ 0 then c (64 + k) else g k
theorem ws_v_0 {c : Nat → Int32} {v : Int32} {f : Nat → Int32} : ws_v c v 0 f = f := by funext k; simp [ws_v]
theorem ws_w_0 {c f : Nat → Int32} : ws_w c 0 f = f := by funext k; simp [ws_w]
theorem ws_v_z {c : Nat → Int32} {v : Int32} {i : Nat} {f : Nat → Int32} (h : c (48 + i) = 0) : ws_v c v (i + 1) f = ws_v c v i f := by
  funext k
  unfold ws_v
  by_cases hk : k = i
  · subst hk; simp [h]
  · have : (k < i + 1) = (k < i) := by apply propext; omega
    simp [this]
theorem ws_w_z {c : Nat → Int32} {i : Nat} {f : Nat → Int32} (h : c (48 + i) = 0) : ws_w c (i + 1) f = ws_w c i f := by
  funext k
  unfold ws_w
  by_cases hk : k = i
  · subst hk; simp [h]
  · have : (k < i + 1) = (k < i) := by apply propext; omega
    simp [this]
theorem ws_v_s {c : Nat → Int32} {v w : Int32} {i : Nat} {f : Nat → Int32} (h : c (48 + i) ≠ 0) (hw : w = if c (48 + i) = 2 then 0 else v) : (fun k => if k = i then w else ws_v c v i f k) = ws_v c v (i + 1) f := by
  funext k
  unfold ws_v
  by_cases hk : k = i
  · subst hk; simp [h, hw]
  · have : (k < i + 1) = (k < i) := by apply propext; omega
    simp [this, hk]
theorem ws_w_s {c : Nat → Int32} {i : Nat} {f : Nat → Int32} (h : c (48 + i) ≠ 0) : (fun k => if k = i then c (64 + i) else ws_w c i f k) = ws_w c (i + 1) f := by
  funext k
  unfold ws_w
  by_cases hk : k = i
  · subst hk; simp [h]
  · have : (k < i + 1) = (k < i) := by apply propext; omega
    simp [this, hk]
theorem ur_comm {α : Type} {f : Nat → Nat → α} {a b : Nat} {g h : Nat → α} (hab : a ≠ b) : en_ur (en_ur f a g) b h = en_ur (en_ur f b h) a g := by
  funext c
  by_cases h1 : c = a
  · subst h1; simp [en_ur, hab]
  · by_cases h2 : c = b
    · subst h2; simp [en_ur, h1]
    · simp [en_ur, h1, h2]
theorem ur_ur {α : Type} {f : Nat → Nat → α} {a : Nat} {g h : Nat → α} : en_ur (en_ur f a g) a h = en_ur f a h := by
  funext c
  by_cases h1 : c = a
  · subst h1; simp [en_ur]
  · simp [en_ur, h1]
/-- two rows written, one place each -/
theorem wt_step {im : Nat → Nat → Int32} {s i : Nat} {f g : Nat → Int32} {v w : Int32} : en_u2 (en_u2 (en_ur (en_ur im (s + 1) f) (s + 2) g) (s + 1) i v) (s + 2) i w = en_ur (en_ur im (s + 1) (fun k => if k = i then v else f k)) (s + 2) (fun k => if k = i then w else g k) := by
  rw [ur_comm (show s + 1 ≠ s + 2 by omega), ur_u2, ur_comm (show s + 2 ≠ s + 1 by omega), ur_u2]
set_option maxRecDepth 20000 in
set_option maxHeartbeats 4000000 in
theorem l69 {LS : Nat} {rm : Nat → Nat → Option Nat} {im : Nat → Nat → Int32} {P : Option Value → (Nat → Nat → Int32) → Prop} {a s : Nat} {v : Int32} (hA : isRs LS rm a) (hS : isWS LS rm s) (hd : s + 2 < a ∨ a + 1 < s) (h1 : P none (en_ur (en_ur im (s + 1) (ws_v (im (a + 1)) v 16 (im (s + 1)))) (s + 2) (ws_w (im (a + 1)) 16 (im (s + 2))))) : ∀ (n i : Nat), i + n = 16 → ∀ (u : Value), Gm LS rm 69 2 [.ref (a), .ref (s), .int (v), .int (nI i), u] [] (en_ur (en_ur im (s + 1) (ws_v (im (a + 1)) v i (im (s + 1)))) (s + 2) (ws_w (im (a + 1)) i (im (s + 2)))) P := by
  intro n
  induction n with
  | zero =>
    intro i hi u
    have hie : i = 16 := by omega
    subst hie
    refine g_iload_n k69_2 rfl ?_
    refine g_bipush (v := 16) k69_3 bp_16 ?_
    refine g_icmp_ge k69_5 (fun _ => ?_) (fun h => absurd (nI_le (Nat.le_refl _) (by decide)) h)
    exact g_retv k69_62 rfl (h1)
  | succ n ih =>
    intro i hi u
    have hlt : i < 16 := by omega
    refine g_iload_n k69_2 rfl ?_
    refine g_bipush (v := 16) k69_3 bp_16 ?_
    refine g_icmp_ge k69_5 (fun h => absurd h (nI_ge hlt (by decide))) (fun _ => ?_)
    refine g_aload_n k69_8 rfl ?_
    refine g_getr k69_9 (hA.1) (by decide) (hA.2.1) ?_
    refine g_bipush (v := 48) k69_12 bp_48 ?_
    refine g_iload_n k69_14 rfl ?_
    refine g_iadd k69_15 ?_
    refine g_top (y := nI (48 + i)) (by rw [show (48 : Int32) = nI 48 from rfl, nI_add]) ?_
    refine g_ialv (v := im (a + 1) (48 + i)) k69_16 (hA.2.2) (by omega) (by decide) (by rw [ur_ne (by omega), ur_ne (by omega)]) ?_
    refine g_istore k69_17 (by decide) rfl ?_
    refine g_iload k69_19 rfl ?_
    refine g_if_eq k69_21 (fun h => ?_) (fun h => ?_)
    · refine g_iincv (y := nI (i + 1)) k69_56 rfl (by decide) (inc_1 i) rfl ?_
      refine g_goto k69_59 ?_
      have := ih (i + 1) (by omega) (.int (im (a + 1) (48 + i)))
      rw [ws_v_z h, ws_w_z h] at this
      exact this
    · refine g_aload_n k69_24 rfl ?_
      refine g_getr k69_25 (hS.1) (by decide) (hS.2.1) ?_
      refine g_iload_n k69_28 rfl ?_
      refine g_iload k69_29 rfl ?_
      refine g_iconst (v := 2) k69_31 ic_2 ?_
      refine g_icmp_ne k69_32 (fun g => ?_) (fun g => ?_)
      · refine g_iload_n k69_39 rfl ?_
        refine g_iasv k69_40 (hS.2.2.2.1) (hlt) (by decide) ?_
        refine g_aload_n k69_41 rfl ?_
        refine g_getr k69_42 (hS.1) (by decide) (hS.2.2.1) ?_
        refine g_iload_n k69_45 rfl ?_
        refine g_aload_n k69_46 rfl ?_
        refine g_getr k69_47 (hA.1) (by decide) (hA.2.1) ?_
        refine g_bipush (v := 64) k69_50 bp_64 ?_
        refine g_iload_n k69_52 rfl ?_
        refine g_iadd k69_53 ?_
        refine g_top (y := nI (64 + i)) (by rw [show (64 : Int32) = nI 64 from rfl, nI_add]) ?_
        refine g_ialv (v := im (a + 1) (64 + i)) k69_54 (hA.2.2) (by omega) (by decide) (by rw [u2_ne (by omega), ur_ne (by omega), ur_ne (by omega)]) ?_
        refine g_iasv k69_55 (hS.2.2.2.2) (hlt) (by decide) ?_
        rw [wt_step, ws_v_s h (by rw [if_neg g]), ws_w_s h]
        refine g_iincv (y := nI (i + 1)) k69_56 rfl (by decide) (inc_1 i) rfl ?_
        refine g_goto k69_59 ?_
        exact ih (i + 1) (by omega) _
      · refine g_iconst (v := 0) k69_35 ic_0 ?_
        refine g_goto k69_36 ?_
        refine g_iasv k69_40 (hS.2.2.2.1) (hlt) (by decide) ?_
        refine g_aload_n k69_41 rfl ?_
        refine g_getr k69_42 (hS.1) (by decide) (hS.2.2.1) ?_
        refine g_iload_n k69_45 rfl ?_
        refine g_aload_n k69_46 rfl ?_
        refine g_getr k69_47 (hA.1) (by decide) (hA.2.1) ?_
        refine g_bipush (v := 64) k69_50 bp_64 ?_
        refine g_iload_n k69_52 rfl ?_
        refine g_iadd k69_53 ?_
        refine g_top (y := nI (64 + i)) (by rw [show (64 : Int32) = nI 64 from rfl, nI_add]) ?_
        refine g_ialv (v := im (a + 1) (64 + i)) k69_54 (hA.2.2) (by omega) (by decide) (by rw [u2_ne (by omega), ur_ne (by omega), ur_ne (by omega)]) ?_
        refine g_iasv k69_55 (hS.2.2.2.2) (hlt) (by decide) ?_
        rw [wt_step, ws_v_s h (by rw [if_pos g]), ws_w_s h]
        refine g_iincv (y := nI (i + 1)) k69_56 rfl (by decide) (inc_1 i) rfl ?_
        refine g_goto k69_59 ?_
        exact ih (i + 1) (by omega) _

set_option maxRecDepth 20000 in
set_option maxHeartbeats 4000000 in
theorem c69 {LS : Nat} {rm : Nat → Nat → Option Nat} {im : Nat → Nat → Int32} {P : Option Value → (Nat → Nat → Int32) → Prop} {a s : Nat} {v : Int32} (hA : isRs LS rm a) (hS : isWS LS rm s) (hd : s + 2 < a ∨ a + 1 < s) (h1 : P none (en_ur (en_ur im (s + 1) (ws_v (im (a + 1)) v 16 (im (s + 1)))) (s + 2) (ws_w (im (a + 1)) 16 (im (s + 2))))) : Gm LS rm 69 0 (en_in 69 [.ref a, .ref s, .int v]) [] im P := by
  show Gm LS rm 69 0 [.ref (a), .ref (s), .int (v), .long 0, .long 0] [] im P
  refine g_iconst (v := 0) k69_0 ic_0 ?_
  refine g_istore_n k69_1 (by decide) rfl ?_
  have := l69 hA hS hd h1 16 0 (by omega) (.long 0)
  rw [ws_v_0, ws_w_0, ur_self, ur_self] at this
  exact this

set_option maxRecDepth 20000 in
set_option maxHeartbeats 4000000 in
theorem l76 {LS : Nat} {rm : Nat → Nat → Option Nat} {im : Nat → Nat → Int32} {P : Option Value → (Nat → Nat → Int32) → Prop} {a c : Nat} {t : Int32} (hA : isBk LS rm a) (hc : c ≤ 4) (h1 : ∀ i, i < c → im (a + 1) i = t → P (some (.int 1)) im) (h0 : (∀ i, i < c → im (a + 1) i ≠ t) → P (some (.int 0)) im) : ∀ (n i : Nat), i + n = c → (∀ k, k < i → im (a + 1) k ≠ t) → Gm LS rm 76 2 [.ref (a), .int (nI c), .int (t), .int (nI i)] [] (im) P := by
  intro n
  induction n with
  | zero =>
    intro i hi hp
    have hie : i = c := by omega
    subst hie
    refine g_iload_n k76_2 rfl ?_
    refine g_iload_n k76_3 rfl ?_
    refine g_icmp_ge k76_4 (fun _ => ?_) (fun h => absurd (nI_le (Nat.le_refl _) (by omega)) h)
    refine g_iconst (v := 0) k76_25 ic_0 ?_
    exact g_retz k76_26 rfl (by decide) (h0 hp)
  | succ n ih =>
    intro i hi hp
    have hlt : i < c := by omega
    refine g_iload_n k76_2 rfl ?_
    refine g_iload_n k76_3 rfl ?_
    refine g_icmp_ge k76_4 (fun h => absurd h (nI_ge hlt (by omega))) (fun _ => ?_)
    refine g_aload_n k76_7 rfl ?_
    refine g_getr k76_8 (hA.1) (by decide) (hA.2.1) ?_
    refine g_iload_n k76_11 rfl ?_
    refine g_ialv k76_12 (hA.2.2) (by omega) (by decide) (rfl) ?_
    refine g_iload_n k76_13 rfl ?_
    refine g_icmp_ne k76_14 (fun h => ?_) (fun h => ?_)
    · refine g_iincv (y := nI (i + 1)) k76_19 rfl (by decide) (inc_1 i) rfl ?_
      refine g_goto k76_22 ?_
      exact ih (i + 1) (by omega) (fun k hk => by by_cases z : k = i; subst z; exact h; exact hp k (by omega))
    · refine g_iconst (v := 1) k76_17 ic_1 ?_
      exact g_retz k76_18 rfl (by decide) (h1 i hlt h)

set_option maxRecDepth 20000 in
set_option maxHeartbeats 4000000 in
theorem c76 {LS : Nat} {rm : Nat → Nat → Option Nat} {im : Nat → Nat → Int32} {P : Option Value → (Nat → Nat → Int32) → Prop} {a c : Nat} {t : Int32} (hA : isBk LS rm a) (hc : c ≤ 4) (h1 : ∀ i, i < c → im (a + 1) i = t → P (some (.int 1)) im) (h0 : (∀ i, i < c → im (a + 1) i ≠ t) → P (some (.int 0)) im) : Gm LS rm 76 0 (en_in 76 [.ref a, .int (nI c), .int t]) [] im P := by
  show Gm LS rm 76 0 [.ref (a), .int (nI c), .int (t), .long 0] [] im P
  refine g_iconst (v := 0) k76_0 ic_0 ?_
  refine g_istore_n k76_1 (by decide) rfl ?_
  exact l76 hA hc h1 h0 c 0 (by omega) (fun k hk => absurd hk (Nat.not_lt_zero k))

set_option maxRecDepth 20000 in
set_option maxHeartbeats 4000000 in
theorem l79 {LS : Nat} {rm : Nat → Nat → Option Nat} {im : Nat → Nat → Int32} {P : Option Value → (Nat → Nat → Int32) → Prop} {a b na nb l : Nat} (hA : isBL LS rm a) (hB : isBL LS rm b) (hna : na ≤ 40) (hnb : nb ≤ 40) (hla : l ≤ na) (hlb : l ≤ nb) (hlm : ¬ (l < na ∧ l < nb)) (h1 : ∀ l, l ≤ na → l ≤ nb → (∀ k, k < l → im (a + 1) k = im (b + 1) k) → (l < na → l < nb → im (a + 1) l ≠ im (b + 1) l) → P (some (.int (nI l))) im) : ∀ (n i : Nat), i + n = l → (∀ k, k < i → im (a + 1) k = im (b + 1) k) → Gm LS rm 79 14 [.ref (a), .ref (b), .int (nI l), .int (nI i)] [] (im) P := by
  intro n
  induction n with
  | zero =>
    intro i hi hp
    have hie : l = i := by omega
    subst hie
    refine g_iload_n k79_14 rfl ?_
    refine g_iload_n k79_15 rfl ?_
    refine g_icmp_ge k79_16 (fun _ => ?_) (fun h => absurd (nI_le (Nat.le_refl _) (by omega)) h)
    refine g_iload_n k79_42 rfl ?_
    exact g_reti k79_43 rfl (h1 _ hla hlb hp (fun x y => absurd (hlm ⟨x, y⟩) (fun z => z)))
  | succ n ih =>
    intro i hi hp
    have hlt : i < l := by omega
    refine g_iload_n k79_14 rfl ?_
    refine g_iload_n k79_15 rfl ?_
    refine g_icmp_ge k79_16 (fun h => absurd h (nI_ge hlt (by omega))) (fun _ => ?_)
    refine g_aload_n k79_19 rfl ?_
    refine g_getr k79_20 (hA.1) (by decide) (hA.2.1) ?_
    refine g_iload_n k79_23 rfl ?_
    refine g_ialv k79_24 (hA.2.2) (by omega) (by decide) (rfl) ?_
    refine g_aload_n k79_25 rfl ?_
    refine g_getr k79_26 (hB.1) (by decide) (hB.2.1) ?_
    refine g_iload_n k79_29 rfl ?_
    refine g_ialv k79_30 (hB.2.2) (by omega) (by decide) (rfl) ?_
    refine g_icmp_eq k79_31 (fun h => ?_) (fun h => ?_)
    · refine g_iincv (y := nI (i + 1)) k79_36 rfl (by decide) (inc_1 i) rfl ?_
      refine g_goto k79_39 ?_
      exact ih (i + 1) (by omega) (fun k hk => by by_cases z : k = i; subst z; exact h; exact hp k (by omega))
    · refine g_iload_n k79_34 rfl ?_
      exact g_reti k79_35 rfl (h1 i (by omega) (by omega) hp (fun _ _ => h))

set_option maxRecDepth 20000 in
set_option maxHeartbeats 4000000 in
theorem c79 {LS : Nat} {rm : Nat → Nat → Option Nat} {im : Nat → Nat → Int32} {P : Option Value → (Nat → Nat → Int32) → Prop} {a b na nb : Nat} (hA : isBL LS rm a) (hB : isBL LS rm b) (ha : im a 1 = nI na) (hb : im b 1 = nI nb) (hna : na ≤ 40) (hnb : nb ≤ 40) (h1 : ∀ l, l ≤ na → l ≤ nb → (∀ k, k < l → im (a + 1) k = im (b + 1) k) → (l < na → l < nb → im (a + 1) l ≠ im (b + 1) l) → P (some (.int (nI l))) im) : Gm LS rm 79 0 (en_in 79 [.ref a, .ref b]) [] im P := by
  show Gm LS rm 79 0 [.ref (a), .ref (b), .long 0, .long 0] [] im P
  refine g_aload_n k79_0 rfl ?_
  refine g_getv (v := nI na) k79_1 (hA.1) (by decide) (ha) ?_
  refine g_aload_n k79_4 rfl ?_
  refine g_getv (v := nI nb) k79_5 (hB.1) (by decide) (hb) ?_
  refine g_min k79_8 (Nat.le_of_ble_eq_true rfl) ?_
  refine g_top (y := nI (min na nb)) (by rcases Nat.lt_or_ge nb na with h | h; rw [if_pos (nI_lt h (by omega)), Nat.min_eq_right (Nat.le_of_lt h)]; rw [if_neg (nI_nlt h (by omega)), Nat.min_eq_left h]) ?_
  refine g_istore_n k79_11 (by decide) rfl ?_
  refine g_iconst (v := 0) k79_12 ic_0 ?_
  refine g_istore_n k79_13 (by decide) rfl ?_
  exact l79 (l := min na nb) hA hB hna hnb (Nat.min_le_left _ _) (Nat.min_le_right _ _) (by omega) h1 (min na nb) 0 (by omega) (fun k hk => absurd hk (Nat.not_lt_zero k))

set_option maxRecDepth 20000 in
set_option maxHeartbeats 4000000 in
theorem c66 {LS : Nat} {rm : Nat → Nat → Option Nat} {im : Nat → Nat → Int32} {P : Option Value → (Nat → Nat → Int32) → Prop} {a s : Nat} (hA : isRs LS rm a) (hS : isWS LS rm s) (h1 : (∀ k, k < 16 → im (a + 1) (16 * 0 + k) = -1 ∨ im (a + 1) (16 * 0 + k) = im (s + 1) k) → P (some (.int 1)) im) (h0 : ¬ (∀ k, k < 16 → im (a + 1) (16 * 0 + k) = -1 ∨ im (a + 1) (16 * 0 + k) = im (s + 1) k) → P (some (.int 0)) im) : Gm LS rm 66 0 (en_in 66 [.ref a, .ref s]) [] im P := by
  show Gm LS rm 66 0 [.ref (a), .ref (s)] [] im P
  refine g_aload_n k66_0 rfl ?_
  refine g_iconst (v := 0) k66_1 ic_0 ?_
  refine g_aload_n k66_2 rfl ?_
  refine g_inv2 k66_3 (hA.1) rfl rfl (by decide) (Nat.le_of_ble_eq_true rfl) (c68 (r := 0) hA hS (by decide) (fun h => ?_) (fun h => ?_))
  · exact g_retz k66_6 rfl (by decide) (h1 h)
  · exact g_retz k66_6 rfl (by decide) (h0 h)

set_option maxRecDepth 20000 in
set_option maxHeartbeats 4000000 in
theorem c67 {LS : Nat} {rm : Nat → Nat → Option Nat} {im : Nat → Nat → Int32} {P : Option Value → (Nat → Nat → Int32) → Prop} {a s : Nat} (hA : isRs LS rm a) (hS : isWS LS rm s) (h1 : (∀ k, k < 16 → im (a + 1) (16 * 1 + k) = -1 ∨ im (a + 1) (16 * 1 + k) = im (s + 1) k) → (∀ k, k < 16 → im (a + 1) (16 * 2 + k) = -1 ∨ im (a + 1) (16 * 2 + k) = im (s + 1) k) → P (some (.int 1)) im) (h0 : ¬ ((∀ k, k < 16 → im (a + 1) (16 * 1 + k) = -1 ∨ im (a + 1) (16 * 1 + k) = im (s + 1) k) ∧ ∀ k, k < 16 → im (a + 1) (16 * 2 + k) = -1 ∨ im (a + 1) (16 * 2 + k) = im (s + 1) k) → P (some (.int 0)) im) : Gm LS rm 67 0 (en_in 67 [.ref a, .ref s]) [] im P := by
  show Gm LS rm 67 0 [.ref (a), .ref (s)] [] im P
  refine g_aload_n k67_0 rfl ?_
  refine g_iconst (v := 1) k67_1 ic_1 ?_
  refine g_aload_n k67_2 rfl ?_
  refine g_inv2 k67_3 (hA.1) rfl rfl (by decide) (Nat.le_of_ble_eq_true rfl) (c68 (r := 1) hA hS (by decide) (fun h => ?_) (fun h => ?_))
  · refine g_if_eq k67_6 (fun h => absurd h (by decide)) (fun _ => ?_)
    refine g_aload_n k67_9 rfl ?_
    refine g_iconst (v := 2) k67_10 ic_2 ?_
    refine g_aload_n k67_11 rfl ?_
    refine g_inv2 k67_12 (hA.1) rfl rfl (by decide) (Nat.le_of_ble_eq_true rfl) (c68 (r := 2) hA hS (by decide) (fun g => ?_) (fun g => ?_))
    · refine g_if_eq k67_15 (fun h => absurd h (by decide)) (fun _ => ?_)
      refine g_iconst (v := 1) k67_18 ic_1 ?_
      refine g_goto k67_19 ?_
      exact g_retz k67_23 rfl (by decide) (h1 h g)
    · refine g_if_eq k67_15 (fun _ => ?_) (fun h => absurd (by decide) h)
      refine g_iconst (v := 0) k67_22 ic_0 ?_
      exact g_retz k67_23 rfl (by decide) (h0 (fun z => g z.2))
  · refine g_if_eq k67_6 (fun _ => ?_) (fun h => absurd (by decide) h)
    refine g_iconst (v := 0) k67_22 ic_0 ?_
    exact g_retz k67_23 rfl (by decide) (h0 (fun z => h z.1))

set_option maxRecDepth 20000 in
set_option maxHeartbeats 4000000 in
theorem c85 {LS : Nat} {rm : Nat → Nat → Option Nat} {im : Nat → Nat → Int32} {P : Option Value → (Nat → Nat → Int32) → Prop} {a h : Nat} (hA : isPe LS rm a) (hh : im (a + 1) 2 = nI h) (hb : h < 40) (h0 : (h + 1) % 4 ≠ 0 → P none (en_u2 im (a + 1) 2 (nI (h + 1)))) (h1 : (h + 1) % 4 = 0 → P none (en_u2 (en_ur (en_ur (en_u2 im (a + 1) 2 (nI (h + 1))) (a + 5) (va_cpy (im (a + 2)) (im (a + 5)) 0 0 16)) (a + 6) (va_cpy (im (a + 3)) (im (a + 6)) 0 0 16)) (a + 4) 2 (nI (h + 1)))) : Gm LS rm 85 0 (en_in 85 [.ref a]) [] im P := by
  show Gm LS rm 85 0 [.ref (a)] [] im P
  refine g_aload_n k85_0 rfl ?_
  refine g_getr k85_1 (hA.1) (by decide) (hA.2.1) ?_
  refine g_dup k85_4 rfl ?_
  refine g_getv (v := nI h) k85_5 (hA.2.2.2.2.1.1) (by decide) (hh) ?_
  refine g_iconst (v := 1) k85_8 ic_1 ?_
  refine g_iadd k85_9 ?_
  refine g_top (y := nI (h + 1)) (nI_1 h) ?_
  refine g_puti k85_10 (by decide) (hA.2.2.2.2.1.1) (by decide) ?_
  refine g_aload_n k85_13 rfl ?_
  refine g_getr k85_14 (hA.1) (by decide) (hA.2.1) ?_
  refine g_getv (v := nI (h + 1)) k85_17 (hA.2.2.2.2.1.1) (by decide) (u2_eq) ?_
  refine g_iconst (v := 4) k85_20 ic_4 ?_
  refine g_irem k85_21 (by decide) ?_
  refine g_top (y := nI ((h + 1) % 4)) (pk_rem (d := 4) (by omega) (by decide) (by decide)) ?_
  refine g_if_ne k85_22 (fun g => ?_) (fun g => ?_)
  · exact g_retv k85_36 rfl (h0 (fun z => g (by rw [z]; rfl)))
  · have hz : (h + 1) % 4 = 0 := Decidable.byContradiction (fun z => nI_ne0 (Nat.pos_of_ne_zero z) (by omega) g)
    refine g_aload_n k85_25 rfl ?_
    refine g_getr k85_26 (hA.1) (by decide) (hA.2.2.1) ?_
    refine g_aload_n k85_29 rfl ?_
    refine g_getr k85_30 (hA.1) (by decide) (hA.2.1) ?_
    refine g_inv1 k85_33 (hA.2.2.2.2.2.1.1) rfl (by decide) (Nat.le_of_ble_eq_true rfl) (c83 (a := a + 4) (b := a + 1) (hA.2.2.2.2.2.1) (hA.2.2.2.2.1) (by omega) ?_)
    have h1 := h1 hz
    rw [show a + 4 + 1 = a + 5 from rfl, show a + 4 + 2 = a + 6 from rfl, show a + 1 + 1 = a + 2 from rfl, show a + 1 + 2 = a + 3 from rfl, en_u2_off (b := a + 2) (by omega), en_u2_off (b := a + 5) (by omega), en_u2_off (b := a + 3) (by omega), en_u2_off (b := a + 6) (by omega), u2_eq]
    exact g_retv k85_36 rfl (h1)

