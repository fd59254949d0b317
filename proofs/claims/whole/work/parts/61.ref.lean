/-! the result grows *-/
theorem upd_e {f : Nat → Int32} {a : Nat} {v : Int32} : upd f a v a = v := by simp [upd]
theorem upd_n {f : Nat → Int32} {a b : Nat} {v : Int32} (h : b ≠ a) : upd f a v b = f b := by simp [upd, h]
theorem resR_read {im : Nat → Nat → Int32} {c : Nat → Int32} {r k : Nat} {v : Int32} (h : resR im 60 c r) (hk : k < 16) (hv : 0 ≤ v) : resR (en_u2 im 385 (960 + k) v) 60 (upd c k v) r := by
  obtain ⟨h1, h2, h3, h4, h5⟩ := h
  refine ⟨by rw [en_u2_off (by decide)]; exact h1, h2, fun j hj => ?_, fun j hj => ?_, fun j hj => ⟨fun hr => ?_, fun hr x hx => ?_⟩⟩
  · rw [upd_n (show 48 + j ≠ k by omega), upd_n (show 64 + j ≠ k by omega)]
    refine ⟨?_, (h3 j hj).2⟩
    by_cases z : j = k
    · subst z; rw [upd_e]; exact Or.inr hv
    · rw [upd_n z]; exact (h3 j hj).1
  · rw [upd_n (show 48 + j ≠ k by omega), upd_n (show 64 + j ≠ k by omega), en_u2_off (b := 386) (by decide), en_u2_off (b := 387) (by decide)]
    refine ⟨?_, (h4 j hj).2⟩
    by_cases z : j = k
    · subst z; rw [upd_e, show 16 * 60 + j = 960 + j by omega, u2_eq]
    · rw [upd_n z, u2_ne (by omega)]; exact (h4 j hj).1
  · rw [en_u2_off (b := 389) (by decide), en_u2_off (b := 390) (by decide), en_u2_off (b := 391) (by decide), show (fun x => upd c k v (16 * (1 + j) + x)) = (fun x => c (16 * (1 + j) + x)) from by funext x; rw [upd_n (by omega)]]
    exact (h5 j hj).1 hr
  · rw [upd_n (by omega)]; exact (h5 j hj).2 hr x hx
theorem resR_write {im : Nat → Nat → Int32} {c : Nat → Int32} {r k : Nat} {v w : Int32} (h : resR im 60 c r) (hk : k < 16) (hv : v = 1 ∨ (v = 2 ∧ w = 0)) : resR (en_u2 (en_u2 im 386 (960 + k) v) 387 (960 + k) w) 60 (upd (upd c (48 + k) v) (64 + k) w) r := by
  obtain ⟨h1, h2, h3, h4, h5⟩ := h
  refine ⟨by rw [en_u2_off (by decide), en_u2_off (by decide)]; exact h1, h2, fun j hj => ?_, fun j hj => ?_, fun j hj => ⟨fun hr => ?_, fun hr x hx => ?_⟩⟩
  · rw [upd_n (show j ≠ 64 + k by omega), upd_n (show j ≠ 48 + k by omega), upd_n (show 48 + j ≠ 64 + k by omega)]
    refine ⟨(h3 j hj).1, ?_⟩
    by_cases z : j = k
    · subst z; rw [upd_e, upd_e]; exact Or.inr hv
    · rw [upd_n (show 48 + j ≠ 48 + k by omega), upd_n (show 64 + j ≠ 64 + k by omega), upd_n (show 64 + j ≠ 48 + k by omega)]; exact (h3 j hj).2
  · rw [upd_n (show j ≠ 64 + k by omega), upd_n (show j ≠ 48 + k by omega), upd_n (show 48 + j ≠ 64 + k by omega), en_u2_off (b := 385) (by decide), en_u2_off (b := 385) (by decide), en_u2_off (b := 386) (by decide)]
    refine ⟨(h4 j hj).1, ?_⟩
    by_cases z : j = k
    · subst z; rw [upd_e, upd_e, show 16 * 60 + j = 960 + j by omega, u2_eq, u2_eq]; exact ⟨rfl, rfl⟩
    · rw [upd_n (show 48 + j ≠ 48 + k by omega), upd_n (show 64 + j ≠ 64 + k by omega), upd_n (show 64 + j ≠ 48 + k by omega), u2_ne (by omega), u2_ne (by omega), en_u2_off (b := 387) (by decide)]; exact (h4 j hj).2
  · rw [en_u2_off (b := 389) (by decide), en_u2_off (b := 390) (by decide), en_u2_off (b := 391) (by decide), en_u2_off (b := 389) (by decide), en_u2_off (b := 390) (by decide), en_u2_off (b := 391) (by decide)]
    obtain ⟨lo, hi, e1, e2, e3, e4, e5, e6⟩ := (h5 j hj).1 hr
    refine ⟨lo, hi, e1, e2, e3, e4, e5, fun x hx => ?_⟩
    have q1 : upd (upd c (48 + k) v) (64 + k) w (16 * (1 + j) + x) = c (16 * (1 + j) + x) := by rw [upd_n (by omega), upd_n (by omega)]
    simp only [q1]
    exact e6 x hx
  · rw [upd_n (by omega), upd_n (by omega)]; exact (h5 j hj).2 hr x hx
theorem rgM_off {im : Nat → Nat → Int32} {r lo hi d c : Nat} (h : c ≠ 371 ∧ (c < 388 ∨ 392 < c)) : rgM im r lo hi d c = im c := by
  unfold rgM
  rw [en_u2_off (by omega), en_u2_off (by omega), ur_ne (by omega), rgA_off (by omega)]
theorem rgM_a {im : Nat → Nat → Int32} {r lo hi d c : Nat} (h : c = 388 ∨ c = 389 ∨ c = 390) : rgM im r lo hi d c = rgA im r lo hi c := by
  unfold rgM
  rw [en_u2_off (by omega), en_u2_off (by omega), ur_ne (by omega)]
theorem rgM_s {im : Nat → Nat → Int32} {r lo hi d : Nat} : rgM im r lo hi d 391 = rgS (im 406) (im 391) r lo hi 16 := by
  unfold rgM
  rw [en_u2_off (by omega), en_u2_off (by omega), ur_eq]
theorem rgM_F {im : Nat → Nat → Int32} {r lo hi d : Nat} (hr : r < 2) (hd : d < 8) : rgF im (rgM im r lo hi d) := by
  unfold rgM rgA
  refine rgF_u (rgF_u (rgF_r (rgF_u (rgF_u (rgF_u (rgF_0 _) (by unfold rgX; omega)) (by unfold rgX; omega)) (by unfold rgX; omega)) (fun x hx => ?_)) (by unfold rgX; omega)) (by unfold rgX; omega)
  unfold rgX at hx
  unfold rgS
  rw [if_neg (by omega)]
theorem resR_range {im : Nat → Nat → Int32} {c : Nat → Int32} {r lo hi d : Nat} (h : resR im 60 c r) (hr2 : r < 2) (hlo : lo < 16) (hhi : hi < 16) (hv : ∀ k, k < 16 → 0 ≤ im 406 k) : resR (rgM im r lo hi d) 60 (ad_c (im 406) c r lo (hi + 1 - lo)) (r + 1) := by
  obtain ⟨h1, h2, h3, h4, h5⟩ := h
  have lowc : ∀ x, x < 16 ∨ 48 ≤ x → ad_c (im 406) c r lo (hi + 1 - lo) x = c x := by
    intro x hx
    unfold ad_c
    rw [if_neg (by omega)]
  refine ⟨by rw [rgM_a (Or.inl rfl)]; unfold rgA; rw [en_u2_off (by decide), en_u2_off (by decide), u2_eq], by omega, fun j hj => ?_, fun j hj => ?_, fun j hj => ⟨fun hr => ?_, fun hr x hx => ?_⟩⟩
  · rw [lowc j (Or.inl hj), lowc (48 + j) (by omega), lowc (64 + j) (by omega)]; exact h3 j hj
  · rw [lowc j (Or.inl hj), lowc (48 + j) (by omega), lowc (64 + j) (by omega), rgM_off (by omega), rgM_off (by omega), rgM_off (by omega)]; exact h4 j hj
  · rw [rgM_a (c := 389) (by omega), rgM_a (c := 390) (by omega), rgM_s]
    unfold rgA
    by_cases z : j = r
    · subst z
      rw [show 2 * 60 + j = 120 + j by omega, en_u2_off (b := 389) (by decide), u2_eq, u2_eq]
      refine ⟨if lo ≤ hi then lo else 1, if lo ≤ hi then hi else 0, by split <;> rfl, by split <;> rfl, by split <;> omega, by split <;> omega, ?_, fun x hx => ?_⟩
      · by_cases w : lo ≤ hi
        · rw [if_pos w, if_pos w]; exact Or.inl w
        · rw [if_neg w, if_neg w]; exact Or.inr ⟨rfl, rfl⟩
      · have e1 : rgS (im 406) (im 391) j lo hi 16 (16 * (120 + j) + x) = rgI lo hi x (im 406 x) := by
          unfold rgS
          rw [if_pos ⟨by omega, by omega⟩, show 16 * (120 + j) + x - 16 * (120 + j) = x by omega]
        have e2 : (lo ≤ x ∧ x ≤ hi) → ad_c (im 406) c j lo (hi + 1 - lo) (16 * (1 + j) + x) = im 406 x := by
          intro w
          unfold ad_c
          rw [if_pos ⟨by omega, by omega⟩, show 16 * (1 + j) + x - 16 * (1 + j) = x by omega]
        have e3 : ¬ (lo ≤ x ∧ x ≤ hi) → ad_c (im 406) c j lo (hi + 1 - lo) (16 * (1 + j) + x) = -1 := by
          intro w
          unfold ad_c
          rw [if_neg (by omega)]
          exact (h5 j hj).2 (Nat.le_refl _) x hx
        have e4 : ((if lo ≤ hi then lo else 1) ≤ x ∧ x ≤ (if lo ≤ hi then hi else 0)) ↔ (lo ≤ x ∧ x ≤ hi) := by
          by_cases w : lo ≤ hi
          · rw [if_pos w, if_pos w]
          · rw [if_neg w, if_neg w]; omega
        simp only [e1]
        refine ⟨fun w => ?_, fun w => ?_⟩
        · rw [e4] at w; rw [e2 w, rgI_t w.1 w.2]; exact ⟨rfl, hv x hx⟩
        · rw [e4] at w; rw [e3 w, rgI_f w]; exact ⟨rfl, rfl⟩
    · rw [en_u2_off (b := 389) (by decide), u2_ne (by omega), u2_ne (by omega), u2_ne (by omega), u2_ne (by omega), u2_ne (by omega)]
      obtain ⟨l2, h2', e1, e2, e3, e4, e5, e6⟩ := (h5 j hj).1 (by omega)
      refine ⟨l2, h2', e1, e2, e3, e4, e5, fun x hx => ?_⟩
      have q1 : rgS (im 406) (im 391) r lo hi 16 (16 * (2 * 60 + j) + x) = im 391 (16 * (2 * 60 + j) + x) := by unfold rgS; rw [if_neg (by omega)]
      have q2 : ad_c (im 406) c r lo (hi + 1 - lo) (16 * (1 + j) + x) = c (16 * (1 + j) + x) := by unfold ad_c; rw [if_neg (by omega)]
      simp only [q1, q2]
      exact e6 x hx
  · rw [show ad_c (im 406) c r lo (hi + 1 - lo) (16 * (1 + j) + x) = c (16 * (1 + j) + x) from by unfold ad_c; rw [if_neg (by omega)]]
    exact (h5 j hj).2 (by omega) x hx
set_option maxRecDepth 20000 in
set_option maxHeartbeats 4000000 in
theorem c97_7 {LS : Nat} {rm : Nat → Nat → Option Nat} {im : Nat → Nat → Int32} {P : Option Value → (Nat → Nat → Int32) → Prop} {d r : Nat} {x arg : Int32} {S c : Nat → Int32} (hO : isMo LS rm) (hC : rgC im d S c r) (hf : im 371 23 = 0) (hver : ∀ k, k < 16 → 0 ≤ im 406 k) (hE : rgE im (rn_step 7 x arg (im 406) (im 405) d S c r) P) : Gm LS rm 97 0 (en_in 97 [.ref 371, .int (nI 7)]) [] im P := by
  show Gm LS rm 97 0 [.ref (371), .int (nI 7), .long 0, .long 0, .long 0] [] im P
  obtain ⟨hd, hb, hst, hr⟩ := hC
  obtain ⟨h1, h0⟩ := hE
  refine g_aload_n k97_0 rfl ?_
  refine g_inv0 k97_1 (sM371) (by decide) (Nat.le_of_ble_eq_true rfl) (c93 hO hd hb (fun z => ?_) (fun z => ?_))
  · refine g_istore_n k97_4 (by decide) rfl ?_
    refine g_iload_n k97_5 rfl ?_
    refine g_bipush (v := 8) k97_6 bp_8 ?_
    refine g_icmp_eq k97_8 (fun h9 => absurd h9 (by decide)) (fun _ => ?_)
    refine g_iload_n k97_11 rfl ?_
    refine g_bipush (v := 10) k97_12 bp_10 ?_
    refine g_icmp_ne k97_14 (fun _ => ?_) (fun h9 => absurd h9 (by decide))
    refine g_iload_n k97_24 rfl ?_
    refine g_istore_n k97_25 (by decide) rfl ?_
    refine g_aload_n k97_26 rfl ?_
    refine g_getv (v := 1) k97_27 (sM371) (by decide) (by rw [u2_eq]) ?_
    refine g_if_eq k97_30 (fun h9 => absurd h9 (by decide)) (fun _ => ?_)
    exact g_retv k97_33 rfl (h0 (by simp [rn_step]; omega) _ (rgF_u (rgF_0 _) (by unfold rgX; omega)) (by rw [u2_eq]))
  · refine g_istore_n k97_4 (by decide) rfl ?_
    refine g_iload_n k97_5 rfl ?_
    refine g_bipush (v := 8) k97_6 bp_8 ?_
    refine g_icmp_eq k97_8 (fun h9 => absurd h9 (by decide)) (fun _ => ?_)
    refine g_iload_n k97_11 rfl ?_
    refine g_bipush (v := 10) k97_12 bp_10 ?_
    refine g_icmp_ne k97_14 (fun _ => ?_) (fun h9 => absurd h9 (by decide))
    refine g_iload_n k97_24 rfl ?_
    refine g_istore_n k97_25 (by decide) rfl ?_
    refine g_aload_n k97_26 rfl ?_
    refine g_getv (v := 0) k97_27 (sM371) (by decide) (by rw [u2_ne (by omega)]; exact hf) ?_
    refine g_if_eq k97_30 (fun _ => ?_) (fun h9 => absurd (by decide) h9)
    have e1 := hst (d - 1) (by omega)
    rw [e1]
    have hk := kb_lt (S (d - 1))
    refine g_iload_n k97_34 rfl ?_
    refine g_bipush (v := 15) k97_35 bp_15 ?_
    refine g_iand k97_37 ?_
    refine g_top (y := nI (kb (S (d - 1)))) (kb_eq _) ?_
    refine g_istore k97_38 (by decide) rfl ?_
    refine g_iload_n k97_40 rfl ?_
    refine g_bipush (v := 7) k97_41 bp_7 ?_
    refine g_icmp_ne k97_43 (fun h9 => absurd (by decide) h9) (fun _ => ?_)
    refine g_aload_n k97_46 rfl ?_
    refine g_getr k97_47 (sM371) (by decide) (mo_read hO) ?_
    refine g_sipush (v := 960) k97_50 sp_960 ?_
    refine g_iload k97_53 rfl ?_
    refine g_iadd k97_55 ?_
    refine g_top (y := nI (960 + kb (S (d - 1)))) (nI_add 960 _) ?_
    refine g_aload_n k97_56 rfl ?_
    refine g_getr k97_57 (sM371) (by decide) (mo_version hO) ?_
    refine g_iload k97_60 rfl ?_
    refine g_ialv (v := im 406 (kb (S (d - 1)))) k97_62 (sM406) (hk) (by decide) (by rw [en_u2_off (by decide)]) ?_
    refine g_iasv k97_63 (sM385) (by omega) (by decide) ?_
    refine g_aload_n k97_64 rfl ?_
    refine g_aload_n k97_65 rfl ?_
    refine g_getr k97_66 (sM371) (by decide) (mo_value hO) ?_
    refine g_iload k97_69 rfl ?_
    refine g_ialv (v := im 405 (kb (S (d - 1)))) k97_71 (sM405) (hk) (by decide) (by rw [en_u2_off (by decide), en_u2_off (by decide)]) ?_
    refine g_inv1 k97_72 (sM371) rfl (by decide) (Nat.le_of_ble_eq_true rfl) (c94 hO (d := d - 1) (by rw [en_u2_off (by decide), u2_eq]) (by omega) (fun y => ?_) (fun y => ?_))
    · exact absurd y (by omega)
    · refine g_goto k97_75 ?_
      exact g_retv k97_141 rfl (h1 d (upd S (d - 1) (im 405 (kb (S (d - 1))))) (upd c (kb (S (d - 1))) (im 406 (kb (S (d - 1))))) r (by simp [rn_step, show 1 ≤ d by omega]) _ (rgF_u (rgF_u (rgF_u (rgF_u (rgF_0 _) (by unfold rgX; omega)) (by unfold rgX; omega)) (by unfold rgX; omega)) (by unfold rgX; omega)) ⟨by rw [u2_eq, show d - 1 + 1 = d by omega], hb, (fun i hi => by simp only [en_u2, upd]; by_cases w : i = d - 1; simp [w]; simp [w]; exact hst i (by omega)), resR_off (fun b hb1 hb2 => by rw [en_u2_off (by omega), en_u2_off (by omega)]) (resR_read (resR_off (fun b hb1 hb2 => by rw [en_u2_off (by omega)]) hr) hk (hver _ hk))⟩ (by simp [en_u2, hf]))

set_option maxRecDepth 20000 in
set_option maxHeartbeats 4000000 in
theorem c97_8 {LS : Nat} {rm : Nat → Nat → Option Nat} {im : Nat → Nat → Int32} {P : Option Value → (Nat → Nat → Int32) → Prop} {d r : Nat} {x arg : Int32} {S c : Nat → Int32} (hO : isMo LS rm) (hC : rgC im d S c r) (hf : im 371 23 = 0) (hver : ∀ k, k < 16 → 0 ≤ im 406 k) (hE : rgE im (rn_step 8 x arg (im 406) (im 405) d S c r) P) : Gm LS rm 97 0 (en_in 97 [.ref 371, .int (nI 8)]) [] im P := by
  show Gm LS rm 97 0 [.ref (371), .int (nI 8), .long 0, .long 0, .long 0] [] im P
  obtain ⟨hd, hb, hst, hr⟩ := hC
  obtain ⟨h1, h0⟩ := hE
  refine g_aload_n k97_0 rfl ?_
  refine g_inv0 k97_1 (sM371) (by decide) (Nat.le_of_ble_eq_true rfl) (c93 hO hd hb (fun z => ?_) (fun z => ?_))
  · refine g_istore_n k97_4 (by decide) rfl ?_
    refine g_iload_n k97_5 rfl ?_
    refine g_bipush (v := 8) k97_6 bp_8 ?_
    refine g_icmp_eq k97_8 (fun _ => ?_) (fun h9 => absurd (by decide) h9)
    refine g_aload_n k97_17 rfl ?_
    refine g_inv0 k97_18 (sM371) (by decide) (Nat.le_of_ble_eq_true rfl) (c93 hO (d := d) (by rw [u2_ne (by omega)]; exact hd) hb (fun y => ?_) (fun y => ?_))
    · refine g_goto k97_21 ?_
      refine g_istore_n k97_25 (by decide) rfl ?_
      refine g_aload_n k97_26 rfl ?_
      refine g_getv (v := 1) k97_27 (sM371) (by decide) (by rw [u2_eq]) ?_
      refine g_if_eq k97_30 (fun h9 => absurd h9 (by decide)) (fun _ => ?_)
      exact g_retv k97_33 rfl (h0 (by simp [rn_step]; omega) _ (rgF_u (rgF_u (rgF_0 _) (by unfold rgX; omega)) (by unfold rgX; omega)) (by rw [u2_eq]))
    · exact absurd y (by omega)
  · refine g_istore_n k97_4 (by decide) rfl ?_
    refine g_iload_n k97_5 rfl ?_
    refine g_bipush (v := 8) k97_6 bp_8 ?_
    refine g_icmp_eq k97_8 (fun _ => ?_) (fun h9 => absurd (by decide) h9)
    refine g_aload_n k97_17 rfl ?_
    refine g_inv0 k97_18 (sM371) (by decide) (Nat.le_of_ble_eq_true rfl) (c93 hO (d := d - 1) (by rw [u2_eq]) (by omega) (fun y => ?_) (fun y => ?_))
    · refine g_goto k97_21 ?_
      refine g_istore_n k97_25 (by decide) rfl ?_
      refine g_aload_n k97_26 rfl ?_
      refine g_getv (v := 1) k97_27 (sM371) (by decide) (by rw [u2_eq]) ?_
      refine g_if_eq k97_30 (fun h9 => absurd h9 (by decide)) (fun _ => ?_)
      exact g_retv k97_33 rfl (h0 (by simp [rn_step]; omega) _ (rgF_u (rgF_u (rgF_0 _) (by unfold rgX; omega)) (by unfold rgX; omega)) (by rw [u2_eq]))
    · refine g_goto k97_21 ?_
      refine g_istore_n k97_25 (by decide) rfl ?_
      refine g_aload_n k97_26 rfl ?_
      refine g_getv (v := 0) k97_27 (sM371) (by decide) (by rw [u2_ne (by omega), u2_ne (by omega)]; exact hf) ?_
      refine g_if_eq k97_30 (fun _ => ?_) (fun h9 => absurd (by decide) h9)
      have e1 := hst (d - 1) (by omega)
      have e2 := hst (d - 2) (by omega)
      rw [en_u2_off (b := 392) (by decide), show d - 1 - 1 = d - 2 by omega, e1, e2]
      have hk := kb_lt (S (d - 2))
      have hk1 := kb_lt (S (d - 1))
      refine g_iload_n k97_34 rfl ?_
      refine g_bipush (v := 15) k97_35 bp_15 ?_
      refine g_iand k97_37 ?_
      refine g_top (y := nI (kb (S (d - 2)))) (kb_eq _) ?_
      refine g_istore k97_38 (by decide) rfl ?_
      refine g_iload_n k97_40 rfl ?_
      refine g_bipush (v := 7) k97_41 bp_7 ?_
      refine g_icmp_ne k97_43 (fun _ => ?_) (fun h9 => absurd h9 (by decide))
      refine g_iload_n k97_78 rfl ?_
      refine g_bipush (v := 10) k97_79 bp_10 ?_
      refine g_icmp_ne k97_81 (fun _ => ?_) (fun h9 => absurd h9 (by decide))
      refine g_aload_n k97_97 rfl ?_
      refine g_getr k97_98 (sM371) (by decide) (mo_wrote hO) ?_
      refine g_sipush (v := 960) k97_101 sp_960 ?_
      refine g_iload k97_104 rfl ?_
      refine g_iadd k97_106 ?_
      refine g_top (y := nI (960 + kb (S (d - 2)))) (nI_add 960 _) ?_
      refine g_iload_n k97_107 rfl ?_
      refine g_bipush (v := 8) k97_108 bp_8 ?_
      refine g_icmp_ne k97_110 (fun h9 => absurd (by decide) h9) (fun _ => ?_)
      refine g_iconst (v := 1) k97_113 ic_1 ?_
      refine g_goto k97_114 ?_
      refine g_iasv k97_118 (sM386) (by omega) (by decide) ?_
      refine g_aload_n k97_119 rfl ?_
      refine g_getr k97_120 (sM371) (by decide) (mo_written hO) ?_
      refine g_sipush (v := 960) k97_123 sp_960 ?_
      refine g_iload k97_126 rfl ?_
      refine g_iadd k97_128 ?_
      refine g_top (y := nI (960 + kb (S (d - 2)))) (nI_add 960 _) ?_
      refine g_iload_n k97_129 rfl ?_
      refine g_bipush (v := 8) k97_130 bp_8 ?_
      refine g_icmp_ne k97_132 (fun h9 => absurd (by decide) h9) (fun _ => ?_)
      refine g_iload_n k97_135 rfl ?_
      refine g_goto k97_136 ?_
      refine g_iasv k97_140 (sM387) (by omega) (by decide) ?_
      exact g_retv k97_141 rfl (h1 (d - 2) S (upd (upd c (48 + kb (S (d - 2))) 1) (64 + kb (S (d - 2))) (S (d - 1))) r (by simp [rn_step, show 2 ≤ d by omega]) _ (rgF_u (rgF_u (rgF_u (rgF_u (rgF_0 _) (by unfold rgX; omega)) (by unfold rgX; omega)) (by unfold rgX; omega)) (by unfold rgX; omega)) ⟨by rw [en_u2_off (by decide), en_u2_off (by decide), u2_eq], by omega, (fun i hi => by rw [en_u2_off (by decide), en_u2_off (by decide), en_u2_off (by decide), en_u2_off (by decide)]; exact hst i (by omega)), resR_write (resR_off (fun b hb1 hb2 => by rw [en_u2_off (by omega), en_u2_off (by omega)]) hr) hk (Or.inl rfl)⟩ (by simp [en_u2, hf]))

set_option maxRecDepth 20000 in
set_option maxHeartbeats 4000000 in
theorem c97_9 {LS : Nat} {rm : Nat → Nat → Option Nat} {im : Nat → Nat → Int32} {P : Option Value → (Nat → Nat → Int32) → Prop} {d r : Nat} {x arg : Int32} {S c : Nat → Int32} (hO : isMo LS rm) (hC : rgC im d S c r) (hf : im 371 23 = 0) (hver : ∀ k, k < 16 → 0 ≤ im 406 k) (hE : rgE im (rn_step 9 x arg (im 406) (im 405) d S c r) P) : Gm LS rm 97 0 (en_in 97 [.ref 371, .int (nI 9)]) [] im P := by
  show Gm LS rm 97 0 [.ref (371), .int (nI 9), .long 0, .long 0, .long 0] [] im P
  obtain ⟨hd, hb, hst, hr⟩ := hC
  obtain ⟨h1, h0⟩ := hE
  refine g_aload_n k97_0 rfl ?_
  refine g_inv0 k97_1 (sM371) (by decide) (Nat.le_of_ble_eq_true rfl) (c93 hO hd hb (fun z => ?_) (fun z => ?_))
  · refine g_istore_n k97_4 (by decide) rfl ?_
    refine g_iload_n k97_5 rfl ?_
    refine g_bipush (v := 8) k97_6 bp_8 ?_
    refine g_icmp_eq k97_8 (fun h9 => absurd h9 (by decide)) (fun _ => ?_)
    refine g_iload_n k97_11 rfl ?_
    refine g_bipush (v := 10) k97_12 bp_10 ?_
    refine g_icmp_ne k97_14 (fun _ => ?_) (fun h9 => absurd h9 (by decide))
    refine g_iload_n k97_24 rfl ?_
    refine g_istore_n k97_25 (by decide) rfl ?_
    refine g_aload_n k97_26 rfl ?_
    refine g_getv (v := 1) k97_27 (sM371) (by decide) (by rw [u2_eq]) ?_
    refine g_if_eq k97_30 (fun h9 => absurd h9 (by decide)) (fun _ => ?_)
    exact g_retv k97_33 rfl (h0 (by simp [rn_step]; omega) _ (rgF_u (rgF_0 _) (by unfold rgX; omega)) (by rw [u2_eq]))
  · refine g_istore_n k97_4 (by decide) rfl ?_
    refine g_iload_n k97_5 rfl ?_
    refine g_bipush (v := 8) k97_6 bp_8 ?_
    refine g_icmp_eq k97_8 (fun h9 => absurd h9 (by decide)) (fun _ => ?_)
    refine g_iload_n k97_11 rfl ?_
    refine g_bipush (v := 10) k97_12 bp_10 ?_
    refine g_icmp_ne k97_14 (fun _ => ?_) (fun h9 => absurd h9 (by decide))
    refine g_iload_n k97_24 rfl ?_
    refine g_istore_n k97_25 (by decide) rfl ?_
    refine g_aload_n k97_26 rfl ?_
    refine g_getv (v := 0) k97_27 (sM371) (by decide) (by rw [u2_ne (by omega)]; exact hf) ?_
    refine g_if_eq k97_30 (fun _ => ?_) (fun h9 => absurd (by decide) h9)
    have e1 := hst (d - 1) (by omega)
    rw [e1]
    have hk := kb_lt (S (d - 1))
    refine g_iload_n k97_34 rfl ?_
    refine g_bipush (v := 15) k97_35 bp_15 ?_
    refine g_iand k97_37 ?_
    refine g_top (y := nI (kb (S (d - 1)))) (kb_eq _) ?_
    refine g_istore k97_38 (by decide) rfl ?_
    refine g_iload_n k97_40 rfl ?_
    refine g_bipush (v := 7) k97_41 bp_7 ?_
    refine g_icmp_ne k97_43 (fun _ => ?_) (fun h9 => absurd h9 (by decide))
    refine g_iload_n k97_78 rfl ?_
    refine g_bipush (v := 10) k97_79 bp_10 ?_
    refine g_icmp_ne k97_81 (fun _ => ?_) (fun h9 => absurd h9 (by decide))
    refine g_aload_n k97_97 rfl ?_
    refine g_getr k97_98 (sM371) (by decide) (mo_wrote hO) ?_
    refine g_sipush (v := 960) k97_101 sp_960 ?_
    refine g_iload k97_104 rfl ?_
    refine g_iadd k97_106 ?_
    refine g_top (y := nI (960 + kb (S (d - 1)))) (nI_add 960 _) ?_
    refine g_iload_n k97_107 rfl ?_
    refine g_bipush (v := 8) k97_108 bp_8 ?_
    refine g_icmp_ne k97_110 (fun _ => ?_) (fun h9 => absurd h9 (by decide))
    refine g_iconst (v := 2) k97_117 ic_2 ?_
    refine g_iasv k97_118 (sM386) (by omega) (by decide) ?_
    refine g_aload_n k97_119 rfl ?_
    refine g_getr k97_120 (sM371) (by decide) (mo_written hO) ?_
    refine g_sipush (v := 960) k97_123 sp_960 ?_
    refine g_iload k97_126 rfl ?_
    refine g_iadd k97_128 ?_
    refine g_top (y := nI (960 + kb (S (d - 1)))) (nI_add 960 _) ?_
    refine g_iload_n k97_129 rfl ?_
    refine g_bipush (v := 8) k97_130 bp_8 ?_
    refine g_icmp_ne k97_132 (fun _ => ?_) (fun h9 => absurd h9 (by decide))
    refine g_iconst (v := 0) k97_139 ic_0 ?_
    refine g_iasv k97_140 (sM387) (by omega) (by decide) ?_
    exact g_retv k97_141 rfl (h1 (d - 1) S (upd (upd c (48 + kb (S (d - 1))) 2) (64 + kb (S (d - 1))) 0) r (by simp [rn_step, show 1 ≤ d by omega]) _ (rgF_u (rgF_u (rgF_u (rgF_0 _) (by unfold rgX; omega)) (by unfold rgX; omega)) (by unfold rgX; omega)) ⟨by rw [en_u2_off (by decide), en_u2_off (by decide), u2_eq], by omega, (fun i hi => by rw [en_u2_off (by decide), en_u2_off (by decide), en_u2_off (by decide)]; exact hst i (by omega)), resR_write (resR_off (fun b hb1 hb2 => by rw [en_u2_off (by omega)]) hr) hk (Or.inr ⟨rfl, rfl⟩)⟩ (by simp [en_u2, hf]))

set_option maxRecDepth 20000 in
set_option maxHeartbeats 4000000 in
theorem c97_10 {LS : Nat} {rm : Nat → Nat → Option Nat} {im : Nat → Nat → Int32} {P : Option Value → (Nat → Nat → Int32) → Prop} {d r : Nat} {x arg : Int32} {S c : Nat → Int32} (hO : isMo LS rm) (hC : rgC im d S c r) (hf : im 371 23 = 0) (hver : ∀ k, k < 16 → 0 ≤ im 406 k) (hE : rgE im (rn_step 10 x arg (im 406) (im 405) d S c r) P) : Gm LS rm 97 0 (en_in 97 [.ref 371, .int (nI 10)]) [] im P := by
  show Gm LS rm 97 0 [.ref (371), .int (nI 10), .long 0, .long 0, .long 0] [] im P
  obtain ⟨hd, hb, hst, hr⟩ := hC
  obtain ⟨h1, h0⟩ := hE
  refine g_aload_n k97_0 rfl ?_
  refine g_inv0 k97_1 (sM371) (by decide) (Nat.le_of_ble_eq_true rfl) (c93 hO hd hb (fun z => ?_) (fun z => ?_))
  · refine g_istore_n k97_4 (by decide) rfl ?_
    refine g_iload_n k97_5 rfl ?_
    refine g_bipush (v := 8) k97_6 bp_8 ?_
    refine g_icmp_eq k97_8 (fun h9 => absurd h9 (by decide)) (fun _ => ?_)
    refine g_iload_n k97_11 rfl ?_
    refine g_bipush (v := 10) k97_12 bp_10 ?_
    refine g_icmp_ne k97_14 (fun h9 => absurd (by decide) h9) (fun _ => ?_)
    refine g_aload_n k97_17 rfl ?_
    refine g_inv0 k97_18 (sM371) (by decide) (Nat.le_of_ble_eq_true rfl) (c93 hO (d := d) (by rw [u2_ne (by omega)]; exact hd) hb (fun y => ?_) (fun y => ?_))
    · refine g_goto k97_21 ?_
      refine g_istore_n k97_25 (by decide) rfl ?_
      refine g_aload_n k97_26 rfl ?_
      refine g_getv (v := 1) k97_27 (sM371) (by decide) (by rw [u2_eq]) ?_
      refine g_if_eq k97_30 (fun h9 => absurd h9 (by decide)) (fun _ => ?_)
      exact g_retv k97_33 rfl (h0 (by simp [rn_step]; intro w; omega) _ (rgF_u (rgF_u (rgF_0 _) (by unfold rgX; omega)) (by unfold rgX; omega)) (by rw [u2_eq]))
    · exact absurd y (by omega)
  · refine g_istore_n k97_4 (by decide) rfl ?_
    refine g_iload_n k97_5 rfl ?_
    refine g_bipush (v := 8) k97_6 bp_8 ?_
    refine g_icmp_eq k97_8 (fun h9 => absurd h9 (by decide)) (fun _ => ?_)
    refine g_iload_n k97_11 rfl ?_
    refine g_bipush (v := 10) k97_12 bp_10 ?_
    refine g_icmp_ne k97_14 (fun h9 => absurd (by decide) h9) (fun _ => ?_)
    refine g_aload_n k97_17 rfl ?_
    refine g_inv0 k97_18 (sM371) (by decide) (Nat.le_of_ble_eq_true rfl) (c93 hO (d := d - 1) (by rw [u2_eq]) (by omega) (fun y => ?_) (fun y => ?_))
    · refine g_goto k97_21 ?_
      refine g_istore_n k97_25 (by decide) rfl ?_
      refine g_aload_n k97_26 rfl ?_
      refine g_getv (v := 1) k97_27 (sM371) (by decide) (by rw [u2_eq]) ?_
      refine g_if_eq k97_30 (fun h9 => absurd h9 (by decide)) (fun _ => ?_)
      exact g_retv k97_33 rfl (h0 (by simp [rn_step]; intro w; omega) _ (rgF_u (rgF_u (rgF_0 _) (by unfold rgX; omega)) (by unfold rgX; omega)) (by rw [u2_eq]))
    · refine g_goto k97_21 ?_
      refine g_istore_n k97_25 (by decide) rfl ?_
      refine g_aload_n k97_26 rfl ?_
      refine g_getv (v := 0) k97_27 (sM371) (by decide) (by rw [u2_ne (by omega), u2_ne (by omega)]; exact hf) ?_
      refine g_if_eq k97_30 (fun _ => ?_) (fun h9 => absurd (by decide) h9)
      have e1 := hst (d - 1) (by omega)
      have e2 := hst (d - 2) (by omega)
      rw [en_u2_off (b := 392) (by decide), show d - 1 - 1 = d - 2 by omega, e1, e2]
      have hk := kb_lt (S (d - 2))
      have hk1 := kb_lt (S (d - 1))
      refine g_iload_n k97_34 rfl ?_
      refine g_bipush (v := 15) k97_35 bp_15 ?_
      refine g_iand k97_37 ?_
      refine g_top (y := nI (kb (S (d - 2)))) (kb_eq _) ?_
      refine g_istore k97_38 (by decide) rfl ?_
      refine g_iload_n k97_40 rfl ?_
      refine g_bipush (v := 7) k97_41 bp_7 ?_
      refine g_icmp_ne k97_43 (fun _ => ?_) (fun h9 => absurd h9 (by decide))
      refine g_iload_n k97_78 rfl ?_
      refine g_bipush (v := 10) k97_79 bp_10 ?_
      refine g_icmp_ne k97_81 (fun h9 => absurd (by decide) h9) (fun _ => ?_)
      refine g_aload_n k97_84 rfl ?_
      refine g_iload k97_85 rfl ?_
      refine g_iload_n k97_87 rfl ?_
      refine g_bipush (v := 15) k97_88 bp_15 ?_
      refine g_iand k97_90 ?_
      refine g_top (y := nI (kb (S (d - 1)))) (kb_eq _) ?_
      refine g_inv2 k97_91 (sM371) rfl rfl (by decide) (Nat.le_of_ble_eq_true rfl) (c98 hO (r := r) (d := d - 2) hk hk1 (by rw [en_u2_off (by decide), en_u2_off (by decide)]; exact hr.1) hr.2.1 (by rw [u2_eq]) (by omega) (fun w => ?_) (fun w => ?_))
      · refine g_goto k97_94 ?_
        exact g_retv k97_141 rfl (h0 (by simp [rn_step]; intro w; omega) _ (rgF_u (rgF_u (rgF_u (rgF_0 _) (by unfold rgX; omega)) (by unfold rgX; omega)) (by unfold rgX; omega)) (by rw [u2_eq]))
      · refine g_goto k97_94 ?_
        have hq := resR_off (im' := en_u2 (en_u2 im 371 22 (nI (d - 1))) 371 22 (nI (d - 2))) (fun b hb1 hb2 => by rw [en_u2_off (by omega), en_u2_off (by omega)]) hr
        refine g_retv k97_141 rfl (h1 (d - 1) (upd S (d - 2) (sm (im 405) (kb (S (d - 2))) (kb (S (d - 1)) + 1 - kb (S (d - 2))))) (ad_c (im 406) c r (kb (S (d - 2))) (kb (S (d - 1)) + 1 - kb (S (d - 2)))) (r + 1) (by simp [rn_step, show 2 ≤ d by omega, w]) _ (rgF_t (rgF_u (rgF_u (rgF_0 _) (by unfold rgX; omega)) (by unfold rgX; omega)) (rgM_F w (by omega))) ⟨by unfold rgM; rw [u2_eq, show d - 2 + 1 = d - 1 by omega], by omega, (fun i hi => ?_), ?_⟩ ?_)
        · unfold rgM
          rw [en_u2_off (by decide)]
          by_cases w2 : i = d - 2
          · subst w2; rw [u2_eq, upd_e, rgU_sm hk hk1, en_u2_off (by decide), en_u2_off (by decide)]
          · rw [u2_ne (by omega), upd_n w2, ur_ne (by decide), rgA_off (by decide), en_u2_off (by decide), en_u2_off (by decide)]; exact hst i (by omega)
        · have := resR_range (d := d - 2) hq w hk hk1 (by rw [en_u2_off (by decide), en_u2_off (by decide)]; exact hver)
          rw [en_u2_off (b := 406) (by decide), en_u2_off (b := 406) (by decide)] at this
          exact this
        · unfold rgM
          rw [u2_ne (by omega), en_u2_off (by decide), ur_ne (by decide), rgA_off (by decide), u2_ne (by omega), u2_ne (by omega)]
          exact hf

