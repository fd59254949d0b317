/-! THE REFERENCE'S MACHINE: its scratch places, its result in the place t, and what they hold of c, the 80 cells *-/
def rgX (c x : Nat) : Prop := c < 371 ∨ 392 < c ∨ (371 < c ∧ c < 385) ∨ (c = 371 ∧ x ≠ 22 ∧ x ≠ 23) ∨ ((c = 385 ∨ c = 386 ∨ c = 387) ∧ x < 960) ∨ (c = 388 ∧ x < 60) ∨ ((c = 389 ∨ c = 390) ∧ x < 120) ∨ (c = 391 ∧ x < 1920)
def rgF (im im' : Nat → Nat → Int32) : Prop := ∀ c x, rgX c x → im' c x = im c x
theorem rgF_0 (im : Nat → Nat → Int32) : rgF im im := fun _ _ _ => rfl
theorem rgF_t {a b c : Nat → Nat → Int32} (h1 : rgF a b) (h2 : rgF b c) : rgF a c := fun x y h => (h2 x y h).trans (h1 x y h)
theorem rgF_u {im m : Nat → Nat → Int32} {c k : Nat} {v : Int32} (h : rgF im m) (hs : ¬ rgX c k) : rgF im (en_u2 m c k v) := by
  intro b j hb
  by_cases z : b = c ∧ j = k
  · obtain ⟨rfl, rfl⟩ := z; exact absurd hb hs
  · rw [u2_ne (by omega)]; exact h b j hb
def okCell (c : Nat → Int32) : Prop := ∀ k, k < 16 → (c k = -1 ∨ 0 ≤ c k) ∧ (c (48 + k) = 0 ∨ c (48 + k) = 1 ∨ (c (48 + k) = 2 ∧ c (64 + k) = 0))
def rgR (f o : Int32) (s c : Nat → Int32) : Prop := ∃ lo hi, f = nI lo ∧ o = nI hi ∧ hi < 16 ∧ lo < 16 ∧ (lo ≤ hi ∨ (lo = 1 ∧ hi = 0)) ∧ ∀ k, k < 16 → ((lo ≤ k ∧ k ≤ hi) → c k = s k ∧ 0 ≤ s k) ∧ (¬ (lo ≤ k ∧ k ≤ hi) → c k = -1 ∧ s k = 0)
def resR (im : Nat → Nat → Int32) (t : Nat) (c : Nat → Int32) (r : Nat) : Prop := im 388 t = nI r ∧ r ≤ 2 ∧ okCell c ∧ (∀ k, k < 16 → im 385 (16 * t + k) = c k ∧ im 386 (16 * t + k) = c (48 + k) ∧ im 387 (16 * t + k) = c (64 + k)) ∧ ∀ j, j < 2 → (j < r → rgR (im 389 (2 * t + j)) (im 390 (2 * t + j)) (fun k => im 391 (16 * (2 * t + j) + k)) (fun k => c (16 * (1 + j) + k))) ∧ (r ≤ j → ∀ k, k < 16 → c (16 * (1 + j) + k) = -1)
theorem resR_off {im im' : Nat → Nat → Int32} {t : Nat} {c : Nat → Int32} {r : Nat} (h : ∀ b, 385 ≤ b → b ≤ 391 → im' b = im b) (hr : resR im t c r) : resR im' t c r := by
  unfold resR at hr ⊢
  rw [h 385 (by decide) (by decide), h 386 (by decide) (by decide), h 387 (by decide) (by decide), h 388 (by decide) (by decide), h 389 (by decide) (by decide), h 390 (by decide) (by decide), h 391 (by decide) (by decide)]
  exact hr
def rgC (im : Nat → Nat → Int32) (d : Nat) (S c : Nat → Int32) (r : Nat) : Prop := im 371 22 = nI d ∧ d ≤ 8 ∧ (∀ i, i < d → im 392 i = S i) ∧ resR im 60 c r
abbrev rgE (im : Nat → Nat → Int32) (q : Option rnT) (P : Option Value → (Nat → Nat → Int32) → Prop) : Prop := (∀ d' S' c' r', q = some ((d', S', c', r'), 0) → ∀ im', rgF im im' → rgC im' d' S' c' r' → im' 371 23 = 0 → P none im') ∧ (q = none → ∀ im', rgF im im' → im' 371 23 = 1 → P none im')
set_option maxRecDepth 20000 in
set_option maxHeartbeats 4000000 in
theorem c96_0 {LS : Nat} {rm : Nat → Nat → Option Nat} {im : Nat → Nat → Int32} {P : Option Value → (Nat → Nat → Int32) → Prop} {d r : Nat} {x arg v : Int32} {S c : Nat → Int32} (hO : isMo LS rm) (hC : rgC im d S c r) (hf : im 371 23 = 0) (hv : v = x) (hE : rgE im (rn_step 0 x arg (im 406) (im 405) d S c r) P) : Gm LS rm 96 0 (en_in 96 [.ref 371, .int (nI 0), .int v]) [] im P := by
  show Gm LS rm 96 0 [.ref (371), .int (nI 0), .int (v), .long 0, .long 0] [] im P
  obtain ⟨hd, hb, hst, hr⟩ := hC
  obtain ⟨h1, h0⟩ := hE
  refine g_iload_n k96_0 rfl ?_
  refine g_iconst (v := 2) k96_1 ic_2 ?_
  refine g_icmp_ge k96_2 (fun h9 => absurd h9 (by decide)) (fun _ => ?_)
  refine g_aload_n k96_5 rfl ?_
  refine g_iload_n k96_6 rfl ?_
  refine g_inv1 k96_7 (sM371) rfl (by decide) (Nat.le_of_ble_eq_true rfl) (c94 hO hd hb (fun z => ?_) (fun z => ?_))
  · exact g_retv k96_10 rfl (h0 (by simp [rn_step, z]) _ (rgF_u (rgF_0 _) (by unfold rgX; omega)) (by rw [u2_eq]))
  · exact g_retv k96_10 rfl (h1 (d + 1) (upd S d x) c r (by simp [rn_step, z]) _ (rgF_u (rgF_u (rgF_0 _) (by unfold rgX; omega)) (by unfold rgX; omega)) ⟨u2_eq, by omega, (fun i hi => by simp only [en_u2, upd]; by_cases w : i = d; simp [w, hv]; simp [w]; exact hst i (by omega)), (resR_off (fun b hb1 hb2 => by rw [en_u2_off (by omega), en_u2_off (by omega)]) hr)⟩ (by rw [u2_ne (by omega), u2_ne (by omega)]; exact hf))

set_option maxRecDepth 20000 in
set_option maxHeartbeats 4000000 in
theorem c96_1 {LS : Nat} {rm : Nat → Nat → Option Nat} {im : Nat → Nat → Int32} {P : Option Value → (Nat → Nat → Int32) → Prop} {d r : Nat} {x arg v : Int32} {S c : Nat → Int32} (hO : isMo LS rm) (hC : rgC im d S c r) (hf : im 371 23 = 0) (hv : v = arg) (hE : rgE im (rn_step 1 x arg (im 406) (im 405) d S c r) P) : Gm LS rm 96 0 (en_in 96 [.ref 371, .int (nI 1), .int v]) [] im P := by
  show Gm LS rm 96 0 [.ref (371), .int (nI 1), .int (v), .long 0, .long 0] [] im P
  obtain ⟨hd, hb, hst, hr⟩ := hC
  obtain ⟨h1, h0⟩ := hE
  refine g_iload_n k96_0 rfl ?_
  refine g_iconst (v := 2) k96_1 ic_2 ?_
  refine g_icmp_ge k96_2 (fun h9 => absurd h9 (by decide)) (fun _ => ?_)
  refine g_aload_n k96_5 rfl ?_
  refine g_iload_n k96_6 rfl ?_
  refine g_inv1 k96_7 (sM371) rfl (by decide) (Nat.le_of_ble_eq_true rfl) (c94 hO hd hb (fun z => ?_) (fun z => ?_))
  · exact g_retv k96_10 rfl (h0 (by simp [rn_step, z]) _ (rgF_u (rgF_0 _) (by unfold rgX; omega)) (by rw [u2_eq]))
  · exact g_retv k96_10 rfl (h1 (d + 1) (upd S d arg) c r (by simp [rn_step, z]) _ (rgF_u (rgF_u (rgF_0 _) (by unfold rgX; omega)) (by unfold rgX; omega)) ⟨u2_eq, by omega, (fun i hi => by simp only [en_u2, upd]; by_cases w : i = d; simp [w, hv]; simp [w]; exact hst i (by omega)), (resR_off (fun b hb1 hb2 => by rw [en_u2_off (by omega), en_u2_off (by omega)]) hr)⟩ (by rw [u2_ne (by omega), u2_ne (by omega)]; exact hf))

set_option maxRecDepth 20000 in
set_option maxHeartbeats 4000000 in
theorem c96_2 {LS : Nat} {rm : Nat → Nat → Option Nat} {im : Nat → Nat → Int32} {P : Option Value → (Nat → Nat → Int32) → Prop} {d r : Nat} {x arg v : Int32} {S c : Nat → Int32} (hO : isMo LS rm) (hC : rgC im d S c r) (hf : im 371 23 = 0) (hv : v = arg) (hE : rgE im (rn_step 2 x arg (im 406) (im 405) d S c r) P) : Gm LS rm 96 0 (en_in 96 [.ref 371, .int (nI 2), .int v]) [] im P := by
  show Gm LS rm 96 0 [.ref (371), .int (nI 2), .int (v), .long 0, .long 0] [] im P
  obtain ⟨hd, hb, hst, hr⟩ := hC
  obtain ⟨h1, h0⟩ := hE
  refine g_iload_n k96_0 rfl ?_
  refine g_iconst (v := 2) k96_1 ic_2 ?_
  refine g_icmp_ge k96_2 (fun _ => ?_) (fun h9 => absurd (by decide) h9)
  refine g_aload_n k96_11 rfl ?_
  refine g_inv0 k96_12 (sM371) (by decide) (Nat.le_of_ble_eq_true rfl) (c93 hO hd hb (fun z => ?_) (fun z => ?_))
  · refine g_istore_n k96_15 (by decide) rfl ?_
    refine g_iload_n k96_16 rfl ?_
    refine g_iconst (v := 5) k96_17 ic_5 ?_
    refine g_icmp_ne k96_18 (fun _ => ?_) (fun h9 => absurd h9 (by decide))
    refine g_aload_n k96_25 rfl ?_
    refine g_inv0 k96_26 (sM371) (by decide) (Nat.le_of_ble_eq_true rfl) (c93 hO (d := d) (by rw [u2_ne (by omega)]; exact hd) hb (fun y => ?_) (fun y => ?_))
    · refine g_istore k96_29 (by decide) rfl ?_
      refine g_aload_n k96_31 rfl ?_
      refine g_getv (v := 1) k96_32 (sM371) (by decide) (by rw [u2_eq]) ?_
      refine g_if_eq k96_35 (fun h9 => absurd h9 (by decide)) (fun _ => ?_)
      exact g_retv k96_38 rfl (h0 (by simp [rn_step]; omega) _ (rgF_u (rgF_u (rgF_0 _) (by unfold rgX; omega)) (by unfold rgX; omega)) (by rw [u2_eq]))
    · exact absurd y (by omega)
  · refine g_istore_n k96_15 (by decide) rfl ?_
    refine g_iload_n k96_16 rfl ?_
    refine g_iconst (v := 5) k96_17 ic_5 ?_
    refine g_icmp_ne k96_18 (fun _ => ?_) (fun h9 => absurd h9 (by decide))
    refine g_aload_n k96_25 rfl ?_
    refine g_inv0 k96_26 (sM371) (by decide) (Nat.le_of_ble_eq_true rfl) (c93 hO (d := d - 1) (by rw [u2_eq]) (by omega) (fun y => ?_) (fun y => ?_))
    · refine g_istore k96_29 (by decide) rfl ?_
      refine g_aload_n k96_31 rfl ?_
      refine g_getv (v := 1) k96_32 (sM371) (by decide) (by rw [u2_eq]) ?_
      refine g_if_eq k96_35 (fun h9 => absurd h9 (by decide)) (fun _ => ?_)
      exact g_retv k96_38 rfl (h0 (by simp [rn_step]; omega) _ (rgF_u (rgF_u (rgF_0 _) (by unfold rgX; omega)) (by unfold rgX; omega)) (by rw [u2_eq]))
    · refine g_istore k96_29 (by decide) rfl ?_
      refine g_aload_n k96_31 rfl ?_
      refine g_getv (v := 0) k96_32 (sM371) (by decide) (by rw [u2_ne (by omega), u2_ne (by omega)]; exact hf) ?_
      refine g_if_eq k96_35 (fun _ => ?_) (fun h9 => absurd (by decide) h9)
      refine g_aload_n k96_39 rfl ?_
      refine g_iload_n k96_40 rfl ?_
      refine g_iconst (v := 2) k96_41 ic_2 ?_
      refine g_icmp_ne k96_42 (fun h9 => absurd (by decide) h9) (fun _ => ?_)
      refine g_iload k96_45 rfl ?_
      refine g_iload_n k96_47 rfl ?_
      refine g_iadd k96_48 ?_
      refine g_goto k96_49 ?_
      refine g_inv1 k96_85 (sM371) rfl (by decide) (Nat.le_of_ble_eq_true rfl) (c94 hO (d := d - 1 - 1) (by rw [u2_eq]) (by omega) (fun w => ?_) (fun w => ?_))
      · exact absurd w (by omega)
      · refine g_iload_n k96_88 rfl ?_
        refine g_iconst (v := 5) k96_89 ic_5 ?_
        refine g_icmp_ne k96_90 (fun _ => ?_) (fun h9 => absurd h9 (by decide))
        have e1 := hst (d - 1) (by omega)
        have e2 := hst (d - 2) (by omega)
        exact g_retv k96_99 rfl (h1 (d - 1) (upd S (d - 2) (S (d - 2) + S (d - 1))) c r (by simp [rn_step, show 2 ≤ d by omega]) _ (rgF_u (rgF_u (rgF_u (rgF_u (rgF_0 _) (by unfold rgX; omega)) (by unfold rgX; omega)) (by unfold rgX; omega)) (by unfold rgX; omega)) ⟨by rw [u2_eq, show d - 1 - 1 + 1 = d - 1 by omega], by omega, (fun i hi => by simp only [en_u2, upd]; by_cases w : i = d - 2; simp [w, show d - 1 - 1 = d - 2 by omega, e1, e2]; simp [w, show d - 1 - 1 = d - 2 by omega]; exact hst i (by omega)), (resR_off (fun b hb1 hb2 => by rw [en_u2_off (by omega), en_u2_off (by omega), en_u2_off (by omega), en_u2_off (by omega)]) hr)⟩ (by simp [en_u2, hf]))

set_option maxRecDepth 20000 in
set_option maxHeartbeats 4000000 in
theorem c96_3 {LS : Nat} {rm : Nat → Nat → Option Nat} {im : Nat → Nat → Int32} {P : Option Value → (Nat → Nat → Int32) → Prop} {d r : Nat} {x arg v : Int32} {S c : Nat → Int32} (hO : isMo LS rm) (hC : rgC im d S c r) (hf : im 371 23 = 0) (hv : v = arg) (hE : rgE im (rn_step 3 x arg (im 406) (im 405) d S c r) P) : Gm LS rm 96 0 (en_in 96 [.ref 371, .int (nI 3), .int v]) [] im P := by
  show Gm LS rm 96 0 [.ref (371), .int (nI 3), .int (v), .long 0, .long 0] [] im P
  obtain ⟨hd, hb, hst, hr⟩ := hC
  obtain ⟨h1, h0⟩ := hE
  refine g_iload_n k96_0 rfl ?_
  refine g_iconst (v := 2) k96_1 ic_2 ?_
  refine g_icmp_ge k96_2 (fun _ => ?_) (fun h9 => absurd (by decide) h9)
  refine g_aload_n k96_11 rfl ?_
  refine g_inv0 k96_12 (sM371) (by decide) (Nat.le_of_ble_eq_true rfl) (c93 hO hd hb (fun z => ?_) (fun z => ?_))
  · refine g_istore_n k96_15 (by decide) rfl ?_
    refine g_iload_n k96_16 rfl ?_
    refine g_iconst (v := 5) k96_17 ic_5 ?_
    refine g_icmp_ne k96_18 (fun _ => ?_) (fun h9 => absurd h9 (by decide))
    refine g_aload_n k96_25 rfl ?_
    refine g_inv0 k96_26 (sM371) (by decide) (Nat.le_of_ble_eq_true rfl) (c93 hO (d := d) (by rw [u2_ne (by omega)]; exact hd) hb (fun y => ?_) (fun y => ?_))
    · refine g_istore k96_29 (by decide) rfl ?_
      refine g_aload_n k96_31 rfl ?_
      refine g_getv (v := 1) k96_32 (sM371) (by decide) (by rw [u2_eq]) ?_
      refine g_if_eq k96_35 (fun h9 => absurd h9 (by decide)) (fun _ => ?_)
      exact g_retv k96_38 rfl (h0 (by simp [rn_step]; omega) _ (rgF_u (rgF_u (rgF_0 _) (by unfold rgX; omega)) (by unfold rgX; omega)) (by rw [u2_eq]))
    · exact absurd y (by omega)
  · refine g_istore_n k96_15 (by decide) rfl ?_
    refine g_iload_n k96_16 rfl ?_
    refine g_iconst (v := 5) k96_17 ic_5 ?_
    refine g_icmp_ne k96_18 (fun _ => ?_) (fun h9 => absurd h9 (by decide))
    refine g_aload_n k96_25 rfl ?_
    refine g_inv0 k96_26 (sM371) (by decide) (Nat.le_of_ble_eq_true rfl) (c93 hO (d := d - 1) (by rw [u2_eq]) (by omega) (fun y => ?_) (fun y => ?_))
    · refine g_istore k96_29 (by decide) rfl ?_
      refine g_aload_n k96_31 rfl ?_
      refine g_getv (v := 1) k96_32 (sM371) (by decide) (by rw [u2_eq]) ?_
      refine g_if_eq k96_35 (fun h9 => absurd h9 (by decide)) (fun _ => ?_)
      exact g_retv k96_38 rfl (h0 (by simp [rn_step]; omega) _ (rgF_u (rgF_u (rgF_0 _) (by unfold rgX; omega)) (by unfold rgX; omega)) (by rw [u2_eq]))
    · refine g_istore k96_29 (by decide) rfl ?_
      refine g_aload_n k96_31 rfl ?_
      refine g_getv (v := 0) k96_32 (sM371) (by decide) (by rw [u2_ne (by omega), u2_ne (by omega)]; exact hf) ?_
      refine g_if_eq k96_35 (fun _ => ?_) (fun h9 => absurd (by decide) h9)
      refine g_aload_n k96_39 rfl ?_
      refine g_iload_n k96_40 rfl ?_
      refine g_iconst (v := 2) k96_41 ic_2 ?_
      refine g_icmp_ne k96_42 (fun _ => ?_) (fun h9 => absurd h9 (by decide))
      refine g_iload_n k96_52 rfl ?_
      refine g_iconst (v := 3) k96_53 ic_3 ?_
      refine g_icmp_ne k96_54 (fun h9 => absurd (by decide) h9) (fun _ => ?_)
      refine g_iload k96_57 rfl ?_
      refine g_iload_n k96_59 rfl ?_
      refine g_isub k96_60 ?_
      refine g_goto k96_61 ?_
      refine g_inv1 k96_85 (sM371) rfl (by decide) (Nat.le_of_ble_eq_true rfl) (c94 hO (d := d - 1 - 1) (by rw [u2_eq]) (by omega) (fun w => ?_) (fun w => ?_))
      · exact absurd w (by omega)
      · refine g_iload_n k96_88 rfl ?_
        refine g_iconst (v := 5) k96_89 ic_5 ?_
        refine g_icmp_ne k96_90 (fun _ => ?_) (fun h9 => absurd h9 (by decide))
        have e1 := hst (d - 1) (by omega)
        have e2 := hst (d - 2) (by omega)
        exact g_retv k96_99 rfl (h1 (d - 1) (upd S (d - 2) (S (d - 2) - S (d - 1))) c r (by simp [rn_step, show 2 ≤ d by omega]) _ (rgF_u (rgF_u (rgF_u (rgF_u (rgF_0 _) (by unfold rgX; omega)) (by unfold rgX; omega)) (by unfold rgX; omega)) (by unfold rgX; omega)) ⟨by rw [u2_eq, show d - 1 - 1 + 1 = d - 1 by omega], by omega, (fun i hi => by simp only [en_u2, upd]; by_cases w : i = d - 2; simp [w, show d - 1 - 1 = d - 2 by omega, e1, e2]; simp [w, show d - 1 - 1 = d - 2 by omega]; exact hst i (by omega)), (resR_off (fun b hb1 hb2 => by rw [en_u2_off (by omega), en_u2_off (by omega), en_u2_off (by omega), en_u2_off (by omega)]) hr)⟩ (by simp [en_u2, hf]))

set_option maxRecDepth 20000 in
set_option maxHeartbeats 4000000 in
theorem c96_4 {LS : Nat} {rm : Nat → Nat → Option Nat} {im : Nat → Nat → Int32} {P : Option Value → (Nat → Nat → Int32) → Prop} {d r : Nat} {x arg v : Int32} {S c : Nat → Int32} (hO : isMo LS rm) (hC : rgC im d S c r) (hf : im 371 23 = 0) (hv : v = arg) (hE : rgE im (rn_step 4 x arg (im 406) (im 405) d S c r) P) : Gm LS rm 96 0 (en_in 96 [.ref 371, .int (nI 4), .int v]) [] im P := by
  show Gm LS rm 96 0 [.ref (371), .int (nI 4), .int (v), .long 0, .long 0] [] im P
  obtain ⟨hd, hb, hst, hr⟩ := hC
  obtain ⟨h1, h0⟩ := hE
  refine g_iload_n k96_0 rfl ?_
  refine g_iconst (v := 2) k96_1 ic_2 ?_
  refine g_icmp_ge k96_2 (fun _ => ?_) (fun h9 => absurd (by decide) h9)
  refine g_aload_n k96_11 rfl ?_
  refine g_inv0 k96_12 (sM371) (by decide) (Nat.le_of_ble_eq_true rfl) (c93 hO hd hb (fun z => ?_) (fun z => ?_))
  · refine g_istore_n k96_15 (by decide) rfl ?_
    refine g_iload_n k96_16 rfl ?_
    refine g_iconst (v := 5) k96_17 ic_5 ?_
    refine g_icmp_ne k96_18 (fun _ => ?_) (fun h9 => absurd h9 (by decide))
    refine g_aload_n k96_25 rfl ?_
    refine g_inv0 k96_26 (sM371) (by decide) (Nat.le_of_ble_eq_true rfl) (c93 hO (d := d) (by rw [u2_ne (by omega)]; exact hd) hb (fun y => ?_) (fun y => ?_))
    · refine g_istore k96_29 (by decide) rfl ?_
      refine g_aload_n k96_31 rfl ?_
      refine g_getv (v := 1) k96_32 (sM371) (by decide) (by rw [u2_eq]) ?_
      refine g_if_eq k96_35 (fun h9 => absurd h9 (by decide)) (fun _ => ?_)
      exact g_retv k96_38 rfl (h0 (by simp [rn_step]; omega) _ (rgF_u (rgF_u (rgF_0 _) (by unfold rgX; omega)) (by unfold rgX; omega)) (by rw [u2_eq]))
    · exact absurd y (by omega)
  · refine g_istore_n k96_15 (by decide) rfl ?_
    refine g_iload_n k96_16 rfl ?_
    refine g_iconst (v := 5) k96_17 ic_5 ?_
    refine g_icmp_ne k96_18 (fun _ => ?_) (fun h9 => absurd h9 (by decide))
    refine g_aload_n k96_25 rfl ?_
    refine g_inv0 k96_26 (sM371) (by decide) (Nat.le_of_ble_eq_true rfl) (c93 hO (d := d - 1) (by rw [u2_eq]) (by omega) (fun y => ?_) (fun y => ?_))
    · refine g_istore k96_29 (by decide) rfl ?_
      refine g_aload_n k96_31 rfl ?_
      refine g_getv (v := 1) k96_32 (sM371) (by decide) (by rw [u2_eq]) ?_
      refine g_if_eq k96_35 (fun h9 => absurd h9 (by decide)) (fun _ => ?_)
      exact g_retv k96_38 rfl (h0 (by simp [rn_step]; omega) _ (rgF_u (rgF_u (rgF_0 _) (by unfold rgX; omega)) (by unfold rgX; omega)) (by rw [u2_eq]))
    · refine g_istore k96_29 (by decide) rfl ?_
      refine g_aload_n k96_31 rfl ?_
      refine g_getv (v := 0) k96_32 (sM371) (by decide) (by rw [u2_ne (by omega), u2_ne (by omega)]; exact hf) ?_
      refine g_if_eq k96_35 (fun _ => ?_) (fun h9 => absurd (by decide) h9)
      refine g_aload_n k96_39 rfl ?_
      refine g_iload_n k96_40 rfl ?_
      refine g_iconst (v := 2) k96_41 ic_2 ?_
      refine g_icmp_ne k96_42 (fun _ => ?_) (fun h9 => absurd h9 (by decide))
      refine g_iload_n k96_52 rfl ?_
      refine g_iconst (v := 3) k96_53 ic_3 ?_
      refine g_icmp_ne k96_54 (fun _ => ?_) (fun h9 => absurd h9 (by decide))
      refine g_iload_n k96_64 rfl ?_
      refine g_iconst (v := 4) k96_65 ic_4 ?_
      refine g_icmp_ne k96_66 (fun h9 => absurd (by decide) h9) (fun _ => ?_)
      refine g_iload k96_69 rfl ?_
      refine g_iload_n k96_71 rfl ?_
      refine g_icmp_ge k96_72 (fun g => ?_) (fun g => ?_)
      · have e1 := hst (d - 1) (by omega)
        have e2 := hst (d - 2) (by omega)
        rw [e1, en_u2_off (by decide), show d - 1 - 1 = d - 2 by omega, e2] at g
        refine g_iconst (v := 0) k96_79 ic_0 ?_
        refine g_goto k96_80 ?_
        refine g_inv1 k96_85 (sM371) rfl (by decide) (Nat.le_of_ble_eq_true rfl) (c94 hO (d := d - 1 - 1) (by rw [u2_eq]) (by omega) (fun w => ?_) (fun w => ?_))
        · exact absurd w (by omega)
        · refine g_iload_n k96_88 rfl ?_
          refine g_iconst (v := 5) k96_89 ic_5 ?_
          refine g_icmp_ne k96_90 (fun _ => ?_) (fun h9 => absurd h9 (by decide))
          have e1 := hst (d - 1) (by omega)
          have e2 := hst (d - 2) (by omega)
          exact g_retv k96_99 rfl (h1 (d - 1) (upd S (d - 2) (0)) c r (by simp [rn_step, show 2 ≤ d by omega, Int32.not_lt.mpr g]) _ (rgF_u (rgF_u (rgF_u (rgF_u (rgF_0 _) (by unfold rgX; omega)) (by unfold rgX; omega)) (by unfold rgX; omega)) (by unfold rgX; omega)) ⟨by rw [u2_eq, show d - 1 - 1 + 1 = d - 1 by omega], by omega, (fun i hi => by simp only [en_u2, upd]; by_cases w : i = d - 2; simp [w, show d - 1 - 1 = d - 2 by omega, e1, e2]; simp [w, show d - 1 - 1 = d - 2 by omega]; exact hst i (by omega)), (resR_off (fun b hb1 hb2 => by rw [en_u2_off (by omega), en_u2_off (by omega), en_u2_off (by omega), en_u2_off (by omega)]) hr)⟩ (by simp [en_u2, hf]))
      · have e1 := hst (d - 1) (by omega)
        have e2 := hst (d - 2) (by omega)
        rw [e1, en_u2_off (by decide), show d - 1 - 1 = d - 2 by omega, e2] at g
        refine g_iconst (v := 1) k96_75 ic_1 ?_
        refine g_goto k96_76 ?_
        refine g_inv1 k96_85 (sM371) rfl (by decide) (Nat.le_of_ble_eq_true rfl) (c94 hO (d := d - 1 - 1) (by rw [u2_eq]) (by omega) (fun w => ?_) (fun w => ?_))
        · exact absurd w (by omega)
        · refine g_iload_n k96_88 rfl ?_
          refine g_iconst (v := 5) k96_89 ic_5 ?_
          refine g_icmp_ne k96_90 (fun _ => ?_) (fun h9 => absurd h9 (by decide))
          have e1 := hst (d - 1) (by omega)
          have e2 := hst (d - 2) (by omega)
          exact g_retv k96_99 rfl (h1 (d - 1) (upd S (d - 2) (1)) c r (by simp [rn_step, show 2 ≤ d by omega, Int32.not_le.mp g]) _ (rgF_u (rgF_u (rgF_u (rgF_u (rgF_0 _) (by unfold rgX; omega)) (by unfold rgX; omega)) (by unfold rgX; omega)) (by unfold rgX; omega)) ⟨by rw [u2_eq, show d - 1 - 1 + 1 = d - 1 by omega], by omega, (fun i hi => by simp only [en_u2, upd]; by_cases w : i = d - 2; simp [w, show d - 1 - 1 = d - 2 by omega, e1, e2]; simp [w, show d - 1 - 1 = d - 2 by omega]; exact hst i (by omega)), (resR_off (fun b hb1 hb2 => by rw [en_u2_off (by omega), en_u2_off (by omega), en_u2_off (by omega), en_u2_off (by omega)]) hr)⟩ (by simp [en_u2, hf]))

set_option maxRecDepth 20000 in
set_option maxHeartbeats 4000000 in
theorem c96_5 {LS : Nat} {rm : Nat → Nat → Option Nat} {im : Nat → Nat → Int32} {P : Option Value → (Nat → Nat → Int32) → Prop} {d r : Nat} {x arg v : Int32} {S c : Nat → Int32} (hO : isMo LS rm) (hC : rgC im d S c r) (hf : im 371 23 = 0) (hv : v = arg) (hE : rgE im (rn_step 5 x arg (im 406) (im 405) d S c r) P) : Gm LS rm 96 0 (en_in 96 [.ref 371, .int (nI 5), .int v]) [] im P := by
  show Gm LS rm 96 0 [.ref (371), .int (nI 5), .int (v), .long 0, .long 0] [] im P
  obtain ⟨hd, hb, hst, hr⟩ := hC
  obtain ⟨h1, h0⟩ := hE
  refine g_iload_n k96_0 rfl ?_
  refine g_iconst (v := 2) k96_1 ic_2 ?_
  refine g_icmp_ge k96_2 (fun _ => ?_) (fun h9 => absurd (by decide) h9)
  refine g_aload_n k96_11 rfl ?_
  refine g_inv0 k96_12 (sM371) (by decide) (Nat.le_of_ble_eq_true rfl) (c93 hO hd hb (fun z => ?_) (fun z => ?_))
  · refine g_istore_n k96_15 (by decide) rfl ?_
    refine g_iload_n k96_16 rfl ?_
    refine g_iconst (v := 5) k96_17 ic_5 ?_
    refine g_icmp_ne k96_18 (fun h9 => absurd (by decide) h9) (fun _ => ?_)
    refine g_iload_n k96_21 rfl ?_
    refine g_goto k96_22 ?_
    refine g_istore k96_29 (by decide) rfl ?_
    refine g_aload_n k96_31 rfl ?_
    refine g_getv (v := 1) k96_32 (sM371) (by decide) (by rw [u2_eq]) ?_
    refine g_if_eq k96_35 (fun h9 => absurd h9 (by decide)) (fun _ => ?_)
    exact g_retv k96_38 rfl (h0 (by simp [rn_step]; intro w; omega) _ (rgF_u (rgF_0 _) (by unfold rgX; omega)) (by rw [u2_eq]))
  · refine g_istore_n k96_15 (by decide) rfl ?_
    refine g_iload_n k96_16 rfl ?_
    refine g_iconst (v := 5) k96_17 ic_5 ?_
    refine g_icmp_ne k96_18 (fun h9 => absurd (by decide) h9) (fun _ => ?_)
    refine g_iload_n k96_21 rfl ?_
    refine g_goto k96_22 ?_
    refine g_istore k96_29 (by decide) rfl ?_
    refine g_aload_n k96_31 rfl ?_
    refine g_getv (v := 0) k96_32 (sM371) (by decide) (by rw [u2_ne (by omega)]; exact hf) ?_
    refine g_if_eq k96_35 (fun _ => ?_) (fun h9 => absurd (by decide) h9)
    refine g_aload_n k96_39 rfl ?_
    refine g_iload_n k96_40 rfl ?_
    refine g_iconst (v := 2) k96_41 ic_2 ?_
    refine g_icmp_ne k96_42 (fun _ => ?_) (fun h9 => absurd h9 (by decide))
    refine g_iload_n k96_52 rfl ?_
    refine g_iconst (v := 3) k96_53 ic_3 ?_
    refine g_icmp_ne k96_54 (fun _ => ?_) (fun h9 => absurd h9 (by decide))
    refine g_iload_n k96_64 rfl ?_
    refine g_iconst (v := 4) k96_65 ic_4 ?_
    refine g_icmp_ne k96_66 (fun _ => ?_) (fun h9 => absurd h9 (by decide))
    refine g_iload k96_83 rfl ?_
    refine g_inv1 k96_85 (sM371) rfl (by decide) (Nat.le_of_ble_eq_true rfl) (c94 hO (d := d - 1) (by rw [u2_eq]) (by omega) (fun y => ?_) (fun y => ?_))
    · exact absurd y (by omega)
    · refine g_iload_n k96_88 rfl ?_
      refine g_iconst (v := 5) k96_89 ic_5 ?_
      refine g_icmp_ne k96_90 (fun h9 => absurd (by decide) h9) (fun _ => ?_)
      refine g_aload_n k96_93 rfl ?_
      refine g_iload k96_94 rfl ?_
      refine g_inv1 k96_96 (sM371) rfl (by decide) (Nat.le_of_ble_eq_true rfl) (c94 hO (d := d - 1 + 1) (by rw [u2_eq]) (by omega) (fun w => ?_) (fun w => ?_))
      · exact g_retv k96_99 rfl (h0 (by simp [rn_step]; intro w; omega) _ (rgF_u (rgF_u (rgF_u (rgF_u (rgF_0 _) (by unfold rgX; omega)) (by unfold rgX; omega)) (by unfold rgX; omega)) (by unfold rgX; omega)) (by rw [u2_eq]))
      · have e1 := hst (d - 1) (by omega)
        rw [e1]
        exact g_retv k96_99 rfl (h1 (d + 1) (upd S d (S (d - 1))) c r (by simp [rn_step, show 1 ≤ d ∧ d < 8 by omega]) _ (rgF_u (rgF_u (rgF_u (rgF_u (rgF_u (rgF_0 _) (by unfold rgX; omega)) (by unfold rgX; omega)) (by unfold rgX; omega)) (by unfold rgX; omega)) (by unfold rgX; omega)) ⟨by rw [u2_eq, show d - 1 + 1 + 1 = d + 1 by omega], by omega, (fun i hi => by simp only [en_u2, upd]; by_cases w : i = d; simp [w, show d - 1 + 1 = d by omega]; by_cases w2 : i = d - 1; simp [w2, show d - 1 + 1 = d by omega, show ¬ d - 1 = d by omega]; simp [w, w2, show d - 1 + 1 = d by omega]; exact hst i (by omega)), (resR_off (fun b hb1 hb2 => by rw [en_u2_off (by omega), en_u2_off (by omega), en_u2_off (by omega), en_u2_off (by omega), en_u2_off (by omega)]) hr)⟩ (by simp [en_u2, hf]))

