section PAIRC
variable {LS : Nat} {rm : Nat → Nat → Option Nat} {K : Nat} {im : Nat → Nat → Int32}

theorem p_5 {a1 : Int32} (hM : isLd LS rm) (hO : isMo LS rm) (hI : Inv K im) : PX LS rm K im 5 105 [.int a1] := by
  have hI' := Inv_k hI
  obtain ⟨M, W, C, N, ld, cl, sz, c, mb, h1, h2, h3, h4, h5, h6, h7, h8, h9⟩ := hI
  obtain ⟨m1, m2, hM60⟩ := h1.1
  have hC60 := h1.2.2.1.2.2
  have hN40 := h1.2.2.2.1.2.2
  obtain ⟨w1, w2, w3⟩ := h1.2.1
  have en : ∀ t, t < M → im 383 t = im (3 * t + 30) 2 := fun t ht => (h4 t (by omega)).2.1.2
  refine x5 (m := M) (w := W) hM m1 hM60 w1 w3 (fun t ht e hne hlt => ⟨_, rfl, ?_⟩) (fun hk => ⟨_, rfl, y5 (m := M) (w := W) hO m2 hM60 w2 w3 (fun t ht e hne hlt => absurd ⟨ht, e, by rw [en t ht] at hne; exact hne, hlt⟩ (hk t)) (fun _ => ⟨rfl, hI'⟩)⟩)
  refine y5 (m := M) (w := W) hO (by rw [u2_ne (by omega), u2_ne (by omega), u2_ne (by omega)]; exact m2) hM60 (by rw [u2_ne (by omega), u2_ne (by omega), u2_ne (by omega)]; exact w2) w3 (fun t' ht' e' _ _ => ⟨rfl, ?_⟩) (fun h => absurd ⟨ht, e, by rw [u2_ne (by omega), u2_ne (by omega), u2_ne (by omega), en t ht]; exact hne, hlt⟩ (h t))
  have z1 := nI_inj (e'.symm.trans e) (by omega) (by omega)
  subst z1
  clear ht' e'
  refine ⟨M, W + 1, C, N, ld, (fun q => if q = t' then true else cl q), sz, c, mb, ?_, iCd_f (fun c x hx => by unfold xCd at hx; rw [u2_ne (by omega), u2_ne (by omega), u2_ne (by omega), u2_ne (by omega), u2_ne (by omega), u2_ne (by omega)]) h2, iRu_f (fun c x hx => by unfold xRu at hx; rw [u2_ne (by omega), u2_ne (by omega), u2_ne (by omega), u2_ne (by omega), u2_ne (by omega), u2_ne (by omega)]) h3, ?_, ?_, ?_, iCh_f (fun c x hx => by unfold xCh at hx; rw [u2_ne (by omega), u2_ne (by omega), u2_ne (by omega), u2_ne (by omega), u2_ne (by omega), u2_ne (by omega)]) h7, iOr_f hC60 (fun c x hx => by unfold xOr at hx; rw [u2_ne (by omega), u2_ne (by omega), u2_ne (by omega), u2_ne (by omega), u2_ne (by omega), u2_ne (by omega)]) (iOr_k h8), iPe_f (fun c x hx => by unfold xPe at hx; rw [u2_ne (by omega), u2_ne (by omega), u2_ne (by omega), u2_ne (by omega), u2_ne (by omega), u2_ne (by omega)]) (chS_fr hM60 hC60 h6 h7 h4 (fun c x hx => by unfold xTx at hx; rw [u2_ne (by omega), u2_ne (by omega), u2_ne (by omega), u2_ne (by omega), u2_ne (by omega), u2_ne (by omega)])) h9⟩
  · obtain ⟨k1, k2, k3, k4, k5, k6⟩ := h1
    refine ⟨?_, ⟨by rw [u2_ne (by omega), u2_ne (by omega), u2_ne (by omega), u2_ne (by omega), u2_eq], by rw [u2_ne (by omega), u2_eq], by omega⟩, ?_, ?_, ?_, ?_⟩
    · rw [u2_ne (by omega), u2_ne (by omega), u2_ne (by omega), u2_ne (by omega), u2_ne (by omega), u2_ne (by omega), u2_ne (by omega), u2_ne (by omega), u2_ne (by omega), u2_ne (by omega), u2_ne (by omega), u2_ne (by omega)]; exact k1
    · rw [u2_ne (by omega), u2_ne (by omega), u2_ne (by omega), u2_ne (by omega), u2_ne (by omega), u2_ne (by omega), u2_ne (by omega), u2_ne (by omega), u2_ne (by omega), u2_ne (by omega), u2_ne (by omega), u2_ne (by omega)]; exact k3
    · rw [u2_ne (by omega), u2_ne (by omega), u2_ne (by omega), u2_ne (by omega), u2_ne (by omega), u2_ne (by omega), u2_ne (by omega), u2_ne (by omega), u2_ne (by omega), u2_ne (by omega), u2_ne (by omega), u2_ne (by omega)]; exact k4
    · rw [u2_ne (by omega), u2_ne (by omega), u2_ne (by omega), u2_ne (by omega), u2_ne (by omega), u2_ne (by omega), u2_ne (by omega), u2_ne (by omega), u2_ne (by omega), u2_ne (by omega), u2_ne (by omega), u2_ne (by omega)]; exact k5
    · rw [u2_ne (by omega), u2_ne (by omega), u2_ne (by omega), u2_ne (by omega), u2_ne (by omega), u2_ne (by omega)]; exact k6
  · intro t ht
    obtain ⟨i1, i2, i3, i4, i5, i6, i7⟩ := h4 t ht
    have hE : tE im (en_u2 (en_u2 (en_u2 (en_u2 (en_u2 (en_u2 im 4 W a1) 1 4 (nI (W + 1))) (3 * t' + 30) 3 1) 393 W a1) 371 25 (nI (W + 1))) 384 t' 1) t := tE_f ht (fun c x y1 y2 y3 => by rw [u2_ne (by omega), u2_ne (by omega), u2_ne (by omega), u2_ne (by omega), u2_ne (by omega), u2_ne (by omega)])
    by_cases z : t = t'
    · subst z
      simp only [iT1, if_true]
      have ec : en_u2 (en_u2 (en_u2 (en_u2 (en_u2 (en_u2 im 4 W a1) 1 4 (nI (W + 1))) (3 * t + 30) 3 1) 393 W a1) 371 25 (nI (W + 1))) 384 t 1 (3 * t + 32) = im (3 * t + 32) := by funext x; rw [u2_ne (by omega), u2_ne (by omega), u2_ne (by omega), u2_ne (by omega), u2_ne (by omega), u2_ne (by omega)]
      rw [ec, show ∀ y, y ≠ 3 → en_u2 (en_u2 (en_u2 (en_u2 (en_u2 (en_u2 im 4 W a1) 1 4 (nI (W + 1))) (3 * t + 30) 3 1) 393 W a1) 371 25 (nI (W + 1))) 384 t 1 (3 * t + 30) y = im (3 * t + 30) y from fun y hy => by rw [u2_ne (by omega), u2_ne (by omega), u2_ne (by omega), u2_ne (by omega), u2_ne (by omega), u2_ne (by omega)]] <;> try decide
      rw [show ∀ y, y ≠ 3 → en_u2 (en_u2 (en_u2 (en_u2 (en_u2 (en_u2 im 4 W a1) 1 4 (nI (W + 1))) (3 * t + 30) 3 1) 393 W a1) 371 25 (nI (W + 1))) 384 t 1 (3 * t + 30) y = im (3 * t + 30) y from fun y hy => by rw [u2_ne (by omega), u2_ne (by omega), u2_ne (by omega), u2_ne (by omega), u2_ne (by omega), u2_ne (by omega)]] <;> try decide
      rw [show ∀ y, y ≠ 3 → en_u2 (en_u2 (en_u2 (en_u2 (en_u2 (en_u2 im 4 W a1) 1 4 (nI (W + 1))) (3 * t + 30) 3 1) 393 W a1) 371 25 (nI (W + 1))) 384 t 1 (3 * t + 30) y = im (3 * t + 30) y from fun y hy => by rw [u2_ne (by omega), u2_ne (by omega), u2_ne (by omega), u2_ne (by omega), u2_ne (by omega), u2_ne (by omega)]] <;> try decide
      refine ⟨fun h => ?_, ⟨i2.1, by rw [u2_ne (by omega), u2_ne (by omega), u2_ne (by omega), u2_ne (by omega), u2_ne (by omega), u2_ne (by omega)]; exact i2.2⟩, ⟨by rw [u2_ne (by omega), u2_ne (by omega), u2_ne (by omega), u2_eq]; rfl, by rw [u2_eq]; rfl⟩, fun h => absurd h (by omega), fun _ => hne, fun h => absurd h hne, fun h => ?_⟩
      · rw [u2_ne (by omega), u2_ne (by omega), u2_ne (by omega), u2_ne (by omega), u2_ne (by omega), u2_ne (by omega), u2_ne (by omega), u2_ne (by omega), u2_ne (by omega), u2_ne (by omega), u2_ne (by omega), u2_ne (by omega)]; exact i1 h
      · obtain ⟨r, r1, r2⟩ := i7 h
        exact ⟨r, by rw [u2_ne (by omega), u2_ne (by omega), u2_ne (by omega), u2_ne (by omega), u2_ne (by omega), u2_ne (by omega)]; exact r1, resR_c hE r2⟩
    · refine iT1_f (cl := fun q => if q = t' then true else cl q) (fun c x hc => by rw [u2_ne (by omega), u2_ne (by omega), u2_ne (by omega), u2_ne (by omega), u2_ne (by omega), u2_ne (by omega)]) ⟨by rw [u2_ne (by omega), u2_ne (by omega), u2_ne (by omega), u2_ne (by omega), u2_ne (by omega), u2_ne (by omega)], by rw [u2_ne (by omega), u2_ne (by omega), u2_ne (by omega), u2_ne (by omega), u2_ne (by omega), u2_ne (by omega)], by rw [u2_ne (by omega), u2_ne (by omega), u2_ne (by omega), u2_ne (by omega), u2_ne (by omega), u2_ne (by omega)], by rw [u2_ne (by omega), u2_ne (by omega), u2_ne (by omega), u2_ne (by omega), u2_ne (by omega), u2_ne (by omega)]⟩ hE ?_
      simp only [iT1, if_neg z]
      exact ⟨i1, i2, i3, i4, i5, i6, i7⟩
  · intro i hi
    by_cases z : i = W
    · subst z
      have f1 : en_u2 (en_u2 (en_u2 (en_u2 (en_u2 (en_u2 im 4 i a1) 1 4 (nI (i + 1))) (3 * t' + 30) 3 1) 393 i a1) 371 25 (nI (i + 1))) 384 t' 1 393 i = a1 := by rw [u2_ne (by omega), u2_ne (by omega), u2_eq]
      have f2 : en_u2 (en_u2 (en_u2 (en_u2 (en_u2 (en_u2 im 4 i a1) 1 4 (nI (i + 1))) (3 * t' + 30) 3 1) 393 i a1) 371 25 (nI (i + 1))) 384 t' 1 4 i = a1 := by rw [u2_ne (by omega), u2_ne (by omega), u2_ne (by omega), u2_ne (by omega), u2_ne (by omega), u2_eq]
      rw [f1, f2]
      refine ⟨rfl, ⟨by rw [e, tn_nI (by omega)], by rw [e, tn_nI (by omega)]; exact ht⟩, by rw [e, tn_nI (by omega)]; simp⟩
    · obtain ⟨j1, j2, j3⟩ := h5 i (by omega)
      rw [u2_ne (by omega), u2_ne (by omega), u2_ne (by omega), u2_ne (by omega), u2_ne (by omega), u2_ne (by omega), u2_ne (by omega), u2_ne (by omega), u2_ne (by omega), u2_ne (by omega), u2_ne (by omega), u2_ne (by omega)]
      refine ⟨j1, j2, ?_⟩
      simp only []
      split
      · rfl
      · exact j3
  · intro b hb
    obtain ⟨j1, j2⟩ := h6 b hb
    refine ⟨by rw [u2_ne (by omega), u2_ne (by omega), u2_ne (by omega), u2_ne (by omega), u2_ne (by omega), u2_ne (by omega), u2_ne (by omega), u2_ne (by omega), u2_ne (by omega), u2_ne (by omega), u2_ne (by omega), u2_ne (by omega)]; exact j1, fun i hi => ?_⟩
    obtain ⟨j3, j4, j5, j6⟩ := j2 i hi
    refine ⟨by rw [u2_ne (by omega), u2_ne (by omega), u2_ne (by omega), u2_ne (by omega), u2_ne (by omega), u2_ne (by omega)]; exact j3, by rw [u2_ne (by omega), u2_ne (by omega), u2_ne (by omega), u2_ne (by omega), u2_ne (by omega), u2_ne (by omega)]; exact j4, j5, ?_⟩
    simp only []
    split
    · rfl
    · exact j6
theorem okG_le {N N' : Nat} (h : okG im N) (hl : N' ≤ N) : okG im N' := fun b hb => h b (by omega)
theorem okC_le {N N' : Nat} (h : okC im N) (hl : N' ≤ N) : okC im N' := fun b hb => h b (by omega)
theorem pu_x {N p st sv : Nat} {sz c : Nat → Nat} {pu : Bool} (h : iP1 im N sz c p pu st sv) : (im (8 * p + 339) 0 ≠ 0 ↔ pu = true) ∧ (im 402 p = 0 ↔ pu = true) := by
  rw [h.1.1, h.1.2]
  cases pu <;> decide
theorem p_14 {a1 a2 a3 : Int32} (hM : isLd LS rm) (hO : isMo LS rm) (hI : Inv K im) : PX LS rm K im 14 117 [.int a1, .int a2, .int a3] := by
  have hI' := Inv_k hI
  obtain ⟨M, W, C, N, ld, cl, sz, c, mb, h1, h2, h3, h4, h5, h6, h7, h8, h9⟩ := hI
  obtain ⟨m1, m2, hM60⟩ := h1.1
  have hC60 := h1.2.2.1.2.2
  have hN40 := h1.2.2.2.1.2.2
  obtain ⟨pu, st, sv, hp⟩ := h9
  have hst : ∀ p, p < 4 → im 403 p = nI (st p) ∧ st p ≤ 40 := fun p hq => ⟨(hp p hq).2.1.2.1, by have := (hp p hq).2.1.2.2; omega⟩
  have hG : ∀ p, p < 4 → okG im (st p) := fun p hq => okG_le (okG_of hM60 hC60 h6 h7 h4 h3) (hp p hq).2.1.2.2
  refine x14 hM (fun p k hq hk ea eb hu e3 => ⟨_, rfl, ?_⟩) (fun p k hq hk ea eb hu e3 => ⟨_, rfl, ?_⟩) (fun h => ⟨_, rfl, ?_⟩)
  · have hu' := (pu_x (hp p hq)).1.mp hu
    refine y14 (st := st) hO hst hG (fun p' k' hq' hk' ea' eb' _ _ m hg => ⟨?_, Inv_GR (fun c hc => hg.1 c hc) hI'⟩) (fun p' k' _ _ _ _ _ e3' => by rw [e3] at e3'; exact absurd e3' (by decide)) (fun h => absurd ⟨hq, hk, ea, eb, (pu_x (hp p hq)).2.mpr hu', Or.inl e3⟩ (h p k))
    have z1 := nI_inj (ea'.symm.trans ea) (by omega) (by omega)
    have z2 := nI_inj (eb'.symm.trans eb) (by omega) (by omega)
    subst z1
    subst z2
    rw [((hp p' hq).2.2.2.2.2.1 hu' k' hk).1, (gCh_f (im 407) (fun _ => 0) (st p')).1]
    rfl
  · have hu' := (pu_x (hp p hq)).1.mp hu
    refine y14 (st := st) hO hst hG (fun p' k' _ _ _ _ _ e3' => by rw [e3] at e3'; exact absurd e3' (by decide)) (fun p' k' hq' hk' ea' eb' _ _ m hg => ⟨?_, Inv_GR (fun c hc => hg.1 c hc) hI'⟩) (fun h => absurd ⟨hq, hk, ea, eb, (pu_x (hp p hq)).2.mpr hu', Or.inr e3⟩ (h p k))
    have z1 := nI_inj (ea'.symm.trans ea) (by omega) (by omega)
    have z2 := nI_inj (eb'.symm.trans eb) (by omega) (by omega)
    subst z1
    subst z2
    rw [((hp p' hq).2.2.2.2.2.1 hu' k' hk).2, (gCh_f (im 407) (fun _ => 0) (st p')).2.1]
    rfl
  · exact y14 (st := st) hO hst hG (fun p k hq hk ea eb hu e3 _ _ => absurd ⟨hq, hk, ea, eb, (pu_x (hp p hq)).1.mpr ((pu_x (hp p hq)).2.mp hu), Or.inl e3⟩ (h p k)) (fun p k hq hk ea eb hu e3 _ _ => absurd ⟨hq, hk, ea, eb, (pu_x (hp p hq)).1.mpr ((pu_x (hp p hq)).2.mp hu), Or.inr e3⟩ (h p k)) (fun _ => ⟨rfl, hI'⟩)
theorem p_15 {a1 a2 a3 : Int32} (hM : isLd LS rm) (hO : isMo LS rm) (hI : Inv K im) : PX LS rm K im 15 118 [.int a1, .int a2, .int a3] := by
  have hI' := Inv_k hI
  obtain ⟨M, W, C, N, ld, cl, sz, c, mb, h1, h2, h3, h4, h5, h6, h7, h8, h9⟩ := hI
  obtain ⟨m1, m2, hM60⟩ := h1.1
  have hC60 := h1.2.2.1.2.2
  have hN40 := h1.2.2.2.1.2.2
  obtain ⟨pu, st, sv, hp⟩ := h9
  have hst : ∀ p, p < 4 → im 403 p = nI (st p) ∧ st p ≤ 40 := fun p hq => ⟨(hp p hq).2.1.2.1, by have := (hp p hq).2.1.2.2; omega⟩
  have hG : ∀ p, p < 4 → okG im (st p) := fun p hq => okG_le (okG_of hM60 hC60 h6 h7 h4 h3) (hp p hq).2.1.2.2
  have hh : ∀ p, p < 4 → im (8 * p + 340) 2 = nI (tn (im (8 * p + 340) 2)) ∧ tn (im (8 * p + 340) 2) ≤ 40 := fun p hq => by
    obtain ⟨a, b⟩ := (hp p hq).2.2.2.1.1
    exact ⟨a, by omega⟩
  have hv : ∀ p, p < 4 → pu p = true → tn (im (8 * p + 340) 2) = st p := fun p hq hu => by rw [(hp p hq).2.2.2.1.2 hu, tn_nI (by have := (hst p hq).2; omega)]
  have sz1 : ∀ b, b < N → szv im (chv im b) = sz (c b) ∧ tn (im 395 (tn (im 401 b))) = sz (c b) := by
    intro b hb
    have hcb := (h7 b hb).2.2
    rw [(ch_v hC60 h7 hb).1, (ch_v hC60 h7 hb).2]
    exact ⟨(bk_v hM60 h6 hcb).2.1, (bk_v hM60 h6 hcb).1⟩
  refine x15 (hg := fun p => tn (im (8 * p + 340) 2)) hM hh (fun p hq hu => okC_le (okC_of hM60 hC60 h6 h7 h4 h3) (by rw [hv p hq ((pu_x (hp p hq)).1.mp hu)]; exact (hp p hq).2.1.2.2)) (fun p b j hq hb hj ea eb ec hu => ⟨_, rfl, ?_⟩) (fun h => ⟨_, rfl, ?_⟩)
  · have hu' := (pu_x (hp p hq)).1.mp hu
    have hb' : b < st p := by have := hv p hq hu'; have hb2 : b < tn (im (8 * p + 340) 2) := hb; omega
    have hbN : b < N := by have := (hp p hq).2.1.2.2; omega
    have hs := (h6 _ (h7 b hbN).2.2).1.2.2.2
    rw [(sz1 b hbN).1] at hj
    refine y15 (st := st) hO hst hG (fun p' b' j' hq' hb'' hj' ea' eb' ec' _ m hg => ⟨?_, Inv_GR (fun c hc => hg.1 c hc) hI'⟩) (fun h => absurd ⟨hq, hb', by rw [(sz1 b hbN).2]; exact hj, ea, eb, ec, (pu_x (hp p hq)).2.mpr hu'⟩ (h p b j))
    have z1 := nI_inj (ea'.symm.trans ea) (by omega) (by omega)
    subst z1
    have s40 := (hst p' hq).2
    have z2 := nI_inj (eb'.symm.trans eb) (by omega) (by omega)
    subst z2
    have hj2 : j' < sz (c b') := by rw [(sz1 b' hbN).2] at hj'; exact hj'
    have z3 := nI_inj (ec'.symm.trans ec) (by omega) (by omega)
    subst z3
    rw [(hp p' hq).2.2.2.2.2.2 b' (by rw [if_pos hu']; exact hb') j' hj, (gCh_f (im 407) (fun _ => 0) (b' + 1)).2.2.2 b' rfl j' hj']
    rfl
  · refine y15 (st := st) hO hst hG (fun p b j hq hb hj ea eb ec hu _ _ => absurd ?_ (h p b j)) (fun _ => ⟨rfl, hI'⟩)
    have hu' := (pu_x (hp p hq)).2.mp hu
    have hbN : b < N := by have := (hp p hq).2.1.2.2; omega
    rw [(sz1 b hbN).2] at hj
    exact ⟨hq, by rw [hv p hq hu']; exact hb, by rw [(sz1 b hbN).1]; exact hj, ea, eb, ec, (pu_x (hp p hq)).1.mpr hu'⟩
end PAIRC
