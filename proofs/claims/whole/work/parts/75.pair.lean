section PAIRB
variable {LS : Nat} {rm : Nat → Nat → Option Nat} {K : Nat} {im : Nat → Nat → Int32}

theorem p_1 {a1 a2 a3 : Int32} (hM : isLd LS rm) (hO : isMo LS rm) (hI : Inv K im) : PX LS rm K im 1 88 [.int a1, .int a2, .int a3] := by
  have hI' := Inv_k hI
  obtain ⟨M, W, C, N, ld, cl, sz, c, mb, h1, h2, h3, h4, h5, h6, h7, h8, h9⟩ := hI
  obtain ⟨m1, m2, hM60⟩ := h1.1
  have hC60 := h1.2.2.1.2.2
  have hN40 := h1.2.2.2.1.2.2
  obtain ⟨ln, op, od, hcd⟩ := h2
  have hx : ∀ p, p < 4 → im (4 * p + 14) 2 = nI (ln p) ∧ ln p ≤ 12 := fun p hp => ⟨(hcd p hp).1.1, (hcd p hp).1.2.2⟩
  have hy : ∀ p, p < 4 → im 372 p = nI (ln p) ∧ ln p ≤ 12 := fun p hp => ⟨(hcd p hp).1.2.1, (hcd p hp).1.2.2⟩
  refine x1 (m := M) (ln := ln) hM m1 hM60 hx (fun p o hk => ⟨1, rfl, ?_⟩) (fun hk => ⟨0, rfl, y1 (m := M) (ln := ln) hO m2 hM60 hy (fun p o h => absurd h (hk p o)) (fun _ => ⟨rfl, hI'⟩)⟩)
  have hp := hk.1
  refine y1 (m := M) (ln := ln) hO (by rw [u2_ne (by omega), u2_ne (by omega), u2_ne (by omega)]; exact m2) hM60 (fun q hq => ⟨by rw [u2_ne (by omega), u2_ne (by omega), u2_ne (by omega)]; exact (hy q hq).1, (hy q hq).2⟩) (fun p' o' hk' => ⟨rfl, ?_⟩) (fun h => absurd hk (h p o))
  have z1 := nI_inj (hk'.2.2.1.symm.trans hk.2.2.1) (by have := hk'.1; omega) (by omega)
  subst z1
  clear hk'
  obtain ⟨-, ho, e1, e2, hm0, h6x, hl⟩ := hk
  refine ⟨M, W, C, N, ld, cl, sz, c, mb, iCt_f (fun c x hx => by unfold xCt at hx; rw [u2_ne (by omega), u2_ne (by omega), u2_ne (by omega), u2_ne (by omega), u2_ne (by omega), u2_ne (by omega)]) h1, ?_, iRu_f (fun c x hx => by unfold xRu at hx; rw [u2_ne (by omega), u2_ne (by omega), u2_ne (by omega), u2_ne (by omega), u2_ne (by omega), u2_ne (by omega)]) h3, iTx_f (fun c x hx => by unfold xTx at hx; rw [u2_ne (by omega), u2_ne (by omega), u2_ne (by omega), u2_ne (by omega), u2_ne (by omega), u2_ne (by omega)]) h4, iWt_f (fun c x hx => by unfold xWt at hx; rw [u2_ne (by omega), u2_ne (by omega), u2_ne (by omega), u2_ne (by omega), u2_ne (by omega), u2_ne (by omega)]) h5, iBk_f hC60 (fun c x hx => by unfold xBk at hx; rw [u2_ne (by omega), u2_ne (by omega), u2_ne (by omega), u2_ne (by omega), u2_ne (by omega), u2_ne (by omega)]) h6, iCh_f (fun c x hx => by unfold xCh at hx; rw [u2_ne (by omega), u2_ne (by omega), u2_ne (by omega), u2_ne (by omega), u2_ne (by omega), u2_ne (by omega)]) h7, iOr_f hC60 (fun c x hx => by unfold xOr at hx; rw [u2_ne (by omega), u2_ne (by omega), u2_ne (by omega), u2_ne (by omega), u2_ne (by omega), u2_ne (by omega)]) (iOr_k h8), iPe_f (fun c x hx => by unfold xPe at hx; rw [u2_ne (by omega), u2_ne (by omega), u2_ne (by omega), u2_ne (by omega), u2_ne (by omega), u2_ne (by omega)]) (chS_fr hM60 hC60 h6 h7 h4 (fun c x hx => by unfold xTx at hx; rw [u2_ne (by omega), u2_ne (by omega), u2_ne (by omega), u2_ne (by omega), u2_ne (by omega), u2_ne (by omega)])) h9⟩
  refine ⟨fun q => if q = p' then ln p' + 1 else ln q, fun q i => if q = p' ∧ i = ln p' then o else op q i, fun q i => if q = p' ∧ i = ln p' then a3 else od q i, fun q hq => ?_⟩
  by_cases z : q = p'
  · subst z
    simp only [if_true]
    refine ⟨⟨by rw [u2_ne (by omega), u2_ne (by omega), u2_ne (by omega), u2_eq], by rw [u2_eq], by omega⟩, fun i hi => ?_⟩
    by_cases w : i = ln q
    · subst w
      simp only [and_self, if_true]
      refine ⟨by rw [u2_ne (by omega), u2_ne (by omega), u2_ne (by omega), u2_ne (by omega), u2_ne (by omega), u2_eq]; exact e2, by rw [u2_ne (by omega), u2_ne (by omega), u2_eq]; exact e2, by omega, by rw [u2_ne (by omega), u2_ne (by omega), u2_ne (by omega), u2_ne (by omega), u2_eq], by rw [u2_ne (by omega), u2_eq], fun h => ?_⟩
      obtain ⟨y, hy1, hy2⟩ := h6x h
      rw [hy2, tn_nI (by omega)]
      exact ⟨rfl, by omega⟩
    · simp only [w, and_false, if_false]
      rw [u2_ne (by omega), u2_ne (by omega), u2_ne (by omega), u2_ne (by omega), u2_ne (by omega), u2_ne (by omega), u2_ne (by omega), u2_ne (by omega), u2_ne (by omega), u2_ne (by omega), u2_ne (by omega), u2_ne (by omega), u2_ne (by omega), u2_ne (by omega), u2_ne (by omega), u2_ne (by omega), u2_ne (by omega), u2_ne (by omega), u2_ne (by omega), u2_ne (by omega), u2_ne (by omega), u2_ne (by omega), u2_ne (by omega), u2_ne (by omega)]
      exact (hcd q hq).2 i (by omega)
  · simp only [z, false_and, if_false]
    refine ⟨⟨by rw [u2_ne (by omega), u2_ne (by omega), u2_ne (by omega), u2_ne (by omega), u2_ne (by omega), u2_ne (by omega)]; exact (hcd q hq).1.1, by rw [u2_ne (by omega), u2_ne (by omega), u2_ne (by omega), u2_ne (by omega), u2_ne (by omega), u2_ne (by omega)]; exact (hcd q hq).1.2.1, (hcd q hq).1.2.2⟩, fun i hi => ?_⟩
    have l1 := (hcd q hq).1.2.2
    rw [u2_ne (by omega), u2_ne (by omega), u2_ne (by omega), u2_ne (by omega), u2_ne (by omega), u2_ne (by omega), u2_ne (by omega), u2_ne (by omega), u2_ne (by omega), u2_ne (by omega), u2_ne (by omega), u2_ne (by omega), u2_ne (by omega), u2_ne (by omega), u2_ne (by omega), u2_ne (by omega), u2_ne (by omega), u2_ne (by omega), u2_ne (by omega), u2_ne (by omega), u2_ne (by omega), u2_ne (by omega), u2_ne (by omega), u2_ne (by omega)]
    exact (hcd q hq).2 i hi
theorem p_3 {a1 a2 : Int32} (hM : isLd LS rm) (hO : isMo LS rm) (hI : Inv K im) : PX LS rm K im 3 103 [.int a1, .int a2] := by
  have hI' := Inv_k hI
  obtain ⟨M, W, C, N, ld, cl, sz, c, mb, h1, h2, h3, h4, h5, h6, h7, h8, h9⟩ := hI
  obtain ⟨m1, m2, hM60⟩ := h1.1
  have hC60 := h1.2.2.1.2.2
  have hN40 := h1.2.2.2.1.2.2
  refine x3 (m := M) hM m1 hM60 (fun p hp e hlt => ⟨_, rfl, ?_⟩) (fun hk => ⟨_, rfl, y3 (m := M) hO m2 hM60 (fun p hp e hlt => absurd ⟨hp, e, hlt⟩ (hk p)) (fun _ => ⟨rfl, hI'⟩)⟩)
  refine y3 (m := M) hO (by rw [u2_ne (by omega), u2_ne (by omega), u2_ne (by omega)]; exact m2) hM60 (fun p' hp' e' _ => ⟨rfl, ?_⟩) (fun h => absurd ⟨hp, e, hlt⟩ (h p))
  clear hp' e' p'
  refine ⟨M + 1, W, C, N, ld, cl, sz, c, mb, ?_, iCd_f (fun c x hx => by unfold xCd at hx; rw [u2_ne (by omega), u2_ne (by omega), u2_ne (by omega), u2_ne (by omega), u2_ne (by omega), u2_ne (by omega)]) h2, iRu_f (fun c x hx => by unfold xRu at hx; rw [u2_ne (by omega), u2_ne (by omega), u2_ne (by omega), u2_ne (by omega), u2_ne (by omega), u2_ne (by omega)]) h3, ?_, ?_, ?_, iCh_f (fun c x hx => by unfold xCh at hx; rw [u2_ne (by omega), u2_ne (by omega), u2_ne (by omega), u2_ne (by omega), u2_ne (by omega), u2_ne (by omega)]) h7, iOr_f hC60 (fun c x hx => by unfold xOr at hx; rw [u2_ne (by omega), u2_ne (by omega), u2_ne (by omega), u2_ne (by omega), u2_ne (by omega), u2_ne (by omega)]) (iOr_k h8), ?_⟩
  · obtain ⟨k1, k2, k3, k4, k5, k6⟩ := h1
    refine ⟨⟨by rw [u2_ne (by omega), u2_ne (by omega), u2_ne (by omega), u2_eq], by rw [u2_eq], by omega⟩, ?_, ?_, ?_, ?_, ?_⟩
    · rw [u2_ne (by omega), u2_ne (by omega), u2_ne (by omega), u2_ne (by omega), u2_ne (by omega), u2_ne (by omega), u2_ne (by omega), u2_ne (by omega), u2_ne (by omega), u2_ne (by omega), u2_ne (by omega), u2_ne (by omega)]; exact k2
    · rw [u2_ne (by omega), u2_ne (by omega), u2_ne (by omega), u2_ne (by omega), u2_ne (by omega), u2_ne (by omega), u2_ne (by omega), u2_ne (by omega), u2_ne (by omega), u2_ne (by omega), u2_ne (by omega), u2_ne (by omega)]; exact k3
    · rw [u2_ne (by omega), u2_ne (by omega), u2_ne (by omega), u2_ne (by omega), u2_ne (by omega), u2_ne (by omega), u2_ne (by omega), u2_ne (by omega), u2_ne (by omega), u2_ne (by omega), u2_ne (by omega), u2_ne (by omega)]; exact k4
    · rw [u2_ne (by omega), u2_ne (by omega), u2_ne (by omega), u2_ne (by omega), u2_ne (by omega), u2_ne (by omega), u2_ne (by omega), u2_ne (by omega), u2_ne (by omega), u2_ne (by omega), u2_ne (by omega), u2_ne (by omega)]; exact k5
    · rw [u2_ne (by omega), u2_ne (by omega), u2_ne (by omega), u2_ne (by omega), u2_ne (by omega), u2_ne (by omega)]; exact k6
  · intro t ht
    obtain ⟨i1, i2, i3, i4, i5, i6, i7⟩ := h4 t ht
    have hE : tE im (en_u2 (en_u2 (en_u2 (en_u2 (en_u2 (en_u2 im (3 * M + 30) 0 a1) (3 * M + 30) 1 a2) 1 2 (nI (M + 1))) 381 M a1) 382 M a2) 371 9 (nI (M + 1))) t := tE_f ht (fun c x y1 y2 y3 => by rw [u2_ne (by omega), u2_ne (by omega), u2_ne (by omega), u2_ne (by omega), u2_ne (by omega), u2_ne (by omega)])
    by_cases z : t = M
    · subst z
      obtain ⟨j1, j2⟩ := i4 (Nat.le_refl _)
      refine ⟨fun _ => ?_, ?_, ?_, fun h => absurd h (by omega), fun h => absurd h (by rw [j2]; decide), fun _ => ?_, fun h => absurd (show _ = _ from ?_) h⟩
      · rw [show ∀ A : Nat → Nat → Int32, en_u2 (en_u2 (en_u2 (en_u2 A 1 2 (nI (t + 1))) 381 t a1) 382 t a2) 371 9 (nI (t + 1)) (3 * t + 30) 0 = A (3 * t + 30) 0 from fun A => by rw [u2_ne (by omega), u2_ne (by omega), u2_ne (by omega), u2_ne (by omega)], u2_ne (by omega), u2_eq, u2_ne (by omega), u2_ne (by omega), u2_eq, u2_ne (by omega), u2_eq, show ∀ A : Nat → Nat → Int32, en_u2 (en_u2 (en_u2 (en_u2 A 1 2 (nI (t + 1))) 381 t a1) 382 t a2) 371 9 (nI (t + 1)) (3 * t + 30) 1 = A (3 * t + 30) 1 from fun A => by rw [u2_ne (by omega), u2_ne (by omega), u2_ne (by omega), u2_ne (by omega)], u2_eq, e]
        exact ⟨isN_of hp (by decide), rfl, rfl⟩
      · rw [u2_ne (by omega), u2_ne (by omega), u2_ne (by omega), u2_ne (by omega), u2_ne (by omega), u2_ne (by omega), u2_ne (by omega), u2_ne (by omega), u2_ne (by omega), u2_ne (by omega), u2_ne (by omega), u2_ne (by omega)]; exact i2
      · rw [u2_ne (by omega), u2_ne (by omega), u2_ne (by omega), u2_ne (by omega), u2_ne (by omega), u2_ne (by omega), u2_ne (by omega), u2_ne (by omega), u2_ne (by omega), u2_ne (by omega), u2_ne (by omega), u2_ne (by omega)]; exact i3
      · rw [u2_ne (by omega), u2_ne (by omega), u2_ne (by omega), u2_ne (by omega), u2_ne (by omega), u2_ne (by omega), u2_ne (by omega), u2_ne (by omega), u2_ne (by omega), u2_ne (by omega), u2_ne (by omega), u2_ne (by omega)]
        refine ⟨(i6 j1).1, (i6 j1).2.1, fun k hk => ?_⟩
        rw [u2_ne (by omega), u2_ne (by omega), u2_ne (by omega), u2_ne (by omega), u2_ne (by omega), u2_ne (by omega)]; exact (i6 j1).2.2 k hk
      · rw [u2_ne (by omega), u2_ne (by omega), u2_ne (by omega), u2_ne (by omega), u2_ne (by omega), u2_ne (by omega)]; exact j1
    · refine iT1_f (M := M + 1) (fun c x hc => by rw [u2_ne (by omega), u2_ne (by omega), u2_ne (by omega), u2_ne (by omega), u2_ne (by omega), u2_ne (by omega)]) ⟨by rw [u2_ne (by omega), u2_ne (by omega), u2_ne (by omega), u2_ne (by omega), u2_ne (by omega), u2_ne (by omega)], by rw [u2_ne (by omega), u2_ne (by omega), u2_ne (by omega), u2_ne (by omega), u2_ne (by omega), u2_ne (by omega)], by rw [u2_ne (by omega), u2_ne (by omega), u2_ne (by omega), u2_ne (by omega), u2_ne (by omega), u2_ne (by omega)], by rw [u2_ne (by omega), u2_ne (by omega), u2_ne (by omega), u2_ne (by omega), u2_ne (by omega), u2_ne (by omega)]⟩ hE ⟨fun h => i1 (by omega), i2, i3, fun h => i4 (by omega), i5, i6, i7⟩
  · intro i hi
    obtain ⟨j1, ⟨j2, j3⟩, j4⟩ := h5 i hi
    rw [u2_ne (by omega), u2_ne (by omega), u2_ne (by omega), u2_ne (by omega), u2_ne (by omega), u2_ne (by omega), u2_ne (by omega), u2_ne (by omega), u2_ne (by omega), u2_ne (by omega), u2_ne (by omega), u2_ne (by omega)]
    exact ⟨j1, ⟨j2, by omega⟩, j4⟩
  · intro b hb
    obtain ⟨j1, j2⟩ := h6 b hb
    refine ⟨by rw [u2_ne (by omega), u2_ne (by omega), u2_ne (by omega), u2_ne (by omega), u2_ne (by omega), u2_ne (by omega), u2_ne (by omega), u2_ne (by omega), u2_ne (by omega), u2_ne (by omega), u2_ne (by omega), u2_ne (by omega)]; exact j1, fun i hi => ?_⟩
    obtain ⟨j3, j4, j5, j6⟩ := j2 i hi
    exact ⟨by rw [u2_ne (by omega), u2_ne (by omega), u2_ne (by omega), u2_ne (by omega), u2_ne (by omega), u2_ne (by omega)]; exact j3, by rw [u2_ne (by omega), u2_ne (by omega), u2_ne (by omega), u2_ne (by omega), u2_ne (by omega), u2_ne (by omega)]; exact j4, by omega, j6⟩
  · refine iPe_f (fun c x hx => by unfold xPe at hx; rw [u2_ne (by omega), u2_ne (by omega), u2_ne (by omega), u2_ne (by omega), u2_ne (by omega), u2_ne (by omega)]) (chS_of hM60 hC60 h6 h7 h4 (fun _ c y1 y2 => by funext x; rw [u2_ne (by omega), u2_ne (by omega), u2_ne (by omega), u2_ne (by omega), u2_ne (by omega), u2_ne (by omega)]) (fun b _ => by rw [u2_ne (by omega), u2_ne (by omega), u2_ne (by omega), u2_ne (by omega), u2_ne (by omega), u2_ne (by omega)]) (fun b _ => ⟨by rw [u2_ne (by omega), u2_ne (by omega), u2_ne (by omega), u2_ne (by omega), u2_ne (by omega), u2_ne (by omega)], fun i _ => by rw [u2_ne (by omega), u2_ne (by omega), u2_ne (by omega), u2_ne (by omega), u2_ne (by omega), u2_ne (by omega)]⟩) (fun t ht _ => ⟨by rw [u2_ne (by omega), u2_ne (by omega), u2_ne (by omega), u2_ne (by omega), u2_ne (by omega), u2_ne (by omega)], by rw [u2_ne (by omega), u2_ne (by omega), u2_ne (by omega), u2_ne (by omega), u2_ne (by omega), u2_ne (by omega)], tE_f (by omega) (fun c x y1 y2 y3 => by rw [u2_ne (by omega), u2_ne (by omega), u2_ne (by omega), u2_ne (by omega), u2_ne (by omega), u2_ne (by omega)])⟩)) h9
end PAIRB
