section PAIRH
variable {LS : Nat} {rm : Nat → Nat → Option Nat} {K : Nat} {im : Nat → Nat → Int32}

theorem Inv_fr {m : Nat → Nat → Int32} (h : ∀ c x, c < 10 ∨ 13 < c → rgX c x → c < 405 → m c x = im c x) (hI : Inv K im) : Inv K m := by
  obtain ⟨M, W, C, N, ld, cl, sz, c, mb, h1, h2, h3, h4, h5, h6, h7, h8, h9⟩ := hI
  have hM := h1.1.2.2
  have hC := h1.2.2.1.2.2
  exact ⟨M, W, C, N, ld, cl, sz, c, mb, iCt_f (fun c x hx => by unfold xCt at hx; exact h c x (by omega) (by unfold rgX; omega) (by omega)) h1, iCd_f (fun c x hx => by unfold xCd at hx; exact h c x (by omega) (by unfold rgX; omega) (by omega)) h2, iRu_f (fun c x hx => by unfold xRu at hx; exact h c x (by omega) (by unfold rgX; omega) (by omega)) h3, iTx_f (fun c x hx => by unfold xTx at hx; exact h c x (by omega) (by unfold rgX; omega) (by omega)) h4, iWt_f (fun c x hx => by unfold xWt at hx; exact h c x (by omega) (by unfold rgX; omega) (by omega)) h5, iBk_f hC (fun c x hx => by unfold xBk at hx; exact h c x (by omega) (by unfold rgX; omega) (by omega)) h6, iCh_f (fun c x hx => by unfold xCh at hx; exact h c x (by omega) (by unfold rgX; omega) (by omega)) h7, iOr_f hC (fun c x hx => by unfold xOr at hx; exact h c x (by omega) (by unfold rgX; omega) (by omega)) h8, iPe_f (fun c x hx => by unfold xPe at hx; exact h c x (by omega) (by unfold rgX; omega) (by omega)) (chS_fr hM hC h6 h7 h4 (fun c x hx => by unfold xTx at hx; exact h c x (by omega) (by unfold rgX; omega) (by omega))) h9⟩
theorem chS_r {m : Nat → Nat → Int32} (h : ∀ c, 371 ≤ c → m c = im c) (N : Nat) : chS im m N := by
  intro b hb
  refine ⟨fun c h1 _ => h c (by omega), by rw [h 401 (by decide)], by rw [h 395 (by decide)], fun i hi => ⟨by rw [h 394 (by decide)], ?_⟩⟩
  unfold tS
  rw [h 381 (by decide), h 383 (by decide), h 388 (by decide), h 385 (by decide), h 386 (by decide), h 387 (by decide), h 389 (by decide), h 390 (by decide), h 391 (by decide)]
  exact ⟨rfl, rfl, rfl, fun _ _ => ⟨rfl, rfl, rfl⟩, fun _ _ => ⟨rfl, rfl, fun _ _ => rfl⟩⟩
theorem okG_r {m : Nat → Nat → Int32} {N : Nat} (h : ∀ c, 371 ≤ c → m c = im c) (hG : okG im N) : okG m N := by
  have hr : ruS im m := fun c h1 _ => h c (by omega)
  have eg : ∀ b i, gT m b i = gT im b i := fun b i => by unfold gT; rw [h 401 (by decide), h 394 (by decide)]
  intro b hb
  obtain ⟨a1, a2, a3⟩ := hG b hb
  rw [h 401 (by decide), h 395 (by decide), h 394 (by decide)]
  refine ⟨a1, a2, fun i hi => ?_⟩
  obtain ⟨b1, b2⟩ := a3 i hi
  rw [eg]
  refine ⟨b1, ?_⟩
  unfold okT at b2 ⊢
  rw [h 381 (by decide), h 388 (by decide)]
  exact ⟨b2.1, b2.2.1, b2.2.2.1, (rV_r hr _).2.2.2.2 b2.2.2.2.1, b2.2.2.2.2⟩
theorem resR_cc {t r : Nat} {c c' : Nat → Int32} (h : ∀ k, k < 80 → c' k = c k) (hr : resR im t c r) : resR im t c' r := by
  obtain ⟨a1, a2, a3, a4, a5⟩ := hr
  refine ⟨a1, a2, fun k hk => ?_, fun k hk => ?_, fun j hj => ⟨fun w => ?_, fun w k hk => ?_⟩⟩
  · rw [h k (by omega), h (48 + k) (by omega), h (64 + k) (by omega)]; exact a3 k hk
  · rw [h k (by omega), h (48 + k) (by omega), h (64 + k) (by omega)]; exact a4 k hk
  · obtain ⟨lo, hi, e1, e2, e3, e4, e5, e6⟩ := (a5 j hj).1 w
    refine ⟨lo, hi, e1, e2, e3, e4, e5, fun k hk => ?_⟩
    have e7 := h (16 * (1 + j) + k) (by omega)
    simp only [e7]
    exact e6 k hk
  · rw [h _ (by omega)]; exact (a5 j hj).2 w k hk
theorem bit_or : ∀ e, e < 16 → ∀ p, p < 4 → ¬ (nI e >>> (nI p &&& 31)) &&& 1 = 1 → e + 2 ^ p < 16 ∧ nI e ||| (1 <<< (nI p &&& 31)) = nI (e + 2 ^ p) ∧ nI e + (1 <<< (nI p &&& 31)) = nI (e + 2 ^ p) := by decide
theorem p_4 {a1 a2 : Int32} (hM : isLd LS rm) (hO : isMo LS rm) (hI : Inv K im) : PX LS rm K im 4 104 [.int a1, .int a2] := by
  have hI' := Inv_k hI
  obtain ⟨M, W, C, N, ld, cl, sz, c, mb, h1, h2, h3, h4, h5, h6, h7, h8, h9⟩ := hI
  obtain ⟨m1, m2, hM60⟩ := h1.1
  have hC60 := h1.2.2.1.2.2
  have hN40 := h1.2.2.2.1.2.2
  obtain ⟨ln, op, od, hcd⟩ := id h2
  obtain ⟨pu, st, sv, hp⟩ := id h9
  have hst : ∀ p, p < 4 → im 403 p = nI (st p) ∧ st p ≤ 40 := fun p hq => ⟨(hp p hq).2.1.2.1, by have := (hp p hq).2.1.2.2; omega⟩
  have hpx : ∀ t, t < M → im (3 * t + 30) 0 = nI (tn (im (3 * t + 30) 0)) ∧ tn (im (3 * t + 30) 0) < 4 := fun t ht => ((h4 t (by omega)).1 ht).1
  have tc : ∀ t, t < M → im 381 t = im (3 * t + 30) 0 ∧ im 382 t = im (3 * t + 30) 1 ∧ im 383 t = im (3 * t + 30) 2 ∧ im 384 t = im (3 * t + 30) 3 := fun t ht => by
    obtain ⟨i1, i2, i3, -⟩ := h4 t (by omega)
    exact ⟨(i1 ht).2.1, (i1 ht).2.2, i2.2, i3.2.trans i3.1.symm⟩
  have Y : ∀ (m1 : Nat → Nat → Int32) (P : Option Value → (Nat → Nat → Int32) → Prop), (∀ c, 371 ≤ c → m1 c = im c) → ((∀ t p, ¬ (t < M ∧ p < 4 ∧ a1 = nI t ∧ a2 = nI p ∧ im (8 * p + 339) 0 ≠ 0 ∧ im (3 * t + 30) 3 = 0 ∧ ¬ (im (3 * t + 30) 2 >>> (nI p &&& 31)) &&& 1 = 1)) → P (some (.int (-1))) m1) → (∀ t p, (t < M ∧ p < 4 ∧ a1 = nI t ∧ a2 = nI p ∧ im (8 * p + 339) 0 ≠ 0 ∧ im (3 * t + 30) 3 = 0 ∧ ¬ (im (3 * t + 30) 2 >>> (nI p &&& 31)) &&& 1 = 1) → rn_run (op (tn (im (3 * t + 30) 0))) (od (tn (im (3 * t + 30) 0))) (im (3 * t + 30) 1) (im (8 * p + 341)) (im (8 * p + 342)) (ln (tn (im (3 * t + 30) 0))) = none → ∀ m2, rgG m1 m2 → P (some (.int 1)) m2) → (∀ t p, (t < M ∧ p < 4 ∧ a1 = nI t ∧ a2 = nI p ∧ im (8 * p + 339) 0 ≠ 0 ∧ im (3 * t + 30) 3 = 0 ∧ ¬ (im (3 * t + 30) 2 >>> (nI p &&& 31)) &&& 1 = 1) → ∀ q, rn_run (op (tn (im (3 * t + 30) 0))) (od (tn (im (3 * t + 30) 0))) (im (3 * t + 30) 1) (im (8 * p + 341)) (im (8 * p + 342)) (ln (tn (im (3 * t + 30) 0))) = some q → ∀ m2, rgG m1 m2 → resR m2 60 q.1.2.2.1 q.1.2.2.2 → ((im (3 * t + 30) 2 ≠ 0 ∧ agA m2 t q.1.2.2.2 16 = false) → P (some (.int 2)) m2) ∧ (¬ (im (3 * t + 30) 2 ≠ 0 ∧ agA m2 t q.1.2.2.2 16 = false) → ∀ m', kpF t m2 m' → resR m' t q.1.2.2.1 q.1.2.2.2 → P (some (.int 0)) (en_u2 m' 383 t (im (3 * t + 30) 2 + (1 <<< (nI p &&& 31)))))) → Gm LS rm 104 0 (en_in 104 [.ref 371, .int a1, .int a2]) [] m1 P := by
    intro m1 P hR k0 k1 k2
    have eF : ∀ p, p < 4 → (gCh m1 (m1 407) (st p)).1 = (FS im (st p)).1 ∧ (gCh m1 (m1 407) (st p)).2.1 = (FS im (st p)).2.1 := fun p hq => by
      rw [gCh_c _ _ (chS_r hR _)]
      exact ⟨(gCh_f _ _ _).1, (gCh_f _ _ _).2.1⟩
    have hsz : ∀ b, b < N → tn (im 395 (tn (im 401 b))) ≤ 4 := fun b hb => by
      have hcb := (h7 b hb).2.2
      rw [(ch_v hC60 h7 hb).1, (bk_v hM60 h6 hcb).1]
      exact (h6 _ hcb).1.2.2.2
    have run : ∀ t p, t < M → p < 4 → im (8 * p + 339) 0 ≠ 0 → rn_run (op (tn (im (3 * t + 30) 0))) (od (tn (im (3 * t + 30) 0))) (m1 382 t) (gCh m1 (m1 407) (st p)).1 (gCh m1 (m1 407) (st p)).2.1 (ln (tn (im (3 * t + 30) 0))) = rn_run (op (tn (im (3 * t + 30) 0))) (od (tn (im (3 * t + 30) 0))) (im (3 * t + 30) 1) (im (8 * p + 341)) (im (8 * p + 342)) (ln (tn (im (3 * t + 30) 0))) := fun t p ht hq hu => by
      have hu' := (pu_x (hp p hq)).1.mp hu
      rw [hR 382 (by decide), (tc t ht).2.1, (eF p hq).1, (eF p hq).2]
      exact rn_congr (fun k hk => ((hp p hq).2.2.2.2.2.1 hu' k hk).1.symm) (fun k hk => ((hp p hq).2.2.2.2.2.1 hu' k hk).2.symm) _
    have cnd : ∀ t p, t < M → p < 4 → a1 = nI t → a2 = nI p → m1 402 p = 0 → m1 384 t = 0 → ¬ (m1 383 t >>> (nI p &&& 31)) &&& 1 = 1 → (t < M ∧ p < 4 ∧ a1 = nI t ∧ a2 = nI p ∧ im (8 * p + 339) 0 ≠ 0 ∧ im (3 * t + 30) 3 = 0 ∧ ¬ (im (3 * t + 30) 2 >>> (nI p &&& 31)) &&& 1 = 1) := fun t p ht hq ea eb c1 c2 c3 => by
      rw [hR 402 (by decide)] at c1
      rw [hR 384 (by decide), (tc t ht).2.2.2] at c2
      rw [hR 383 (by decide), (tc t ht).2.2.1] at c3
      exact ⟨ht, hq, ea, eb, (pu_x (hp p hq)).1.mpr ((pu_x (hp p hq)).2.mp c1), c2, c3⟩
    refine y4 (m := M) (st := st) (pr := fun t => tn (im (3 * t + 30) 0)) (len := ln) (op := op) (opd := od) hO (by rw [hR 371 (by decide)]; exact m2) hM60 (fun p hq => by rw [hR 403 (by decide)]; exact hst p hq) (fun p hq => okG_r hR (okG_le (okG_of hM60 hC60 h6 h7 h4 h3) (hp p hq).2.1.2.2)) (fun p hq k hk => ?_) (fun t ht => by rw [hR 381 (by decide), (tc t ht).1]; exact hpx t ht) (fun p hq => by rw [hR 372 (by decide)]; exact ⟨(hcd p hq).1.2.1, (hcd p hq).1.2.2⟩) (fun p hq i hi => by rw [hR 373 (by decide)]; exact ⟨((hcd p hq).2 i hi).2.1, ((hcd p hq).2 i hi).2.2.1⟩) (fun p hq i hi => by rw [hR 374 (by decide)]; exact ⟨((hcd p hq).2 i hi).2.2.2.2.1, ((hcd p hq).2 i hi).2.2.2.2.2⟩) (fun hk => k0 (fun t p hc => hk t p ?_)) (fun t p ht hq ea eb c1 c2 c3 hr m2 hg => ?_) (fun t p ht hq ea eb c1 c2 c3 q hr m2 hg hres => ?_)
    · rw [(eF p hq).1]
      exact gCh_nn _ _ (hst p hq).2 (fun b hb => hsz b (by have := (hp p hq).2.1.2.2; omega)) k
    · obtain ⟨ht, hq, ea, eb, c1, c2, c3⟩ := hc
      refine ⟨ht, hq, ea, eb, ?_, ?_, ?_⟩
      · rw [hR 402 (by decide)]; exact (pu_x (hp p hq)).2.mpr ((pu_x (hp p hq)).1.mp c1)
      · rw [hR 384 (by decide), (tc t ht).2.2.2]; exact c2
      · rw [hR 383 (by decide), (tc t ht).2.2.1]; exact c3
    · have hc := cnd t p ht hq ea eb c1 c2 c3
      rw [run t p ht hq hc.2.2.2.2.1] at hr
      exact k1 t p hc hr m2 hg
    · have hc := cnd t p ht hq ea eb c1 c2 c3
      rw [run t p ht hq hc.2.2.2.2.1] at hr
      rw [hR 383 (by decide), (tc t ht).2.2.1]
      exact k2 t p hc q hr m2 hg hres
  have uni : ∀ {t p t' p'}, (t < M ∧ p < 4 ∧ a1 = nI t ∧ a2 = nI p ∧ im (8 * p + 339) 0 ≠ 0 ∧ im (3 * t + 30) 3 = 0 ∧ ¬ (im (3 * t + 30) 2 >>> (nI p &&& 31)) &&& 1 = 1) → (t' < M ∧ p' < 4 ∧ a1 = nI t' ∧ a2 = nI p' ∧ im (8 * p' + 339) 0 ≠ 0 ∧ im (3 * t' + 30) 3 = 0 ∧ ¬ (im (3 * t' + 30) 2 >>> (nI p' &&& 31)) &&& 1 = 1) → t' = t ∧ p' = p := fun c1 c2 => ⟨nI_inj (c2.2.2.1.symm.trans c1.2.2.1) (by omega) (by omega), nI_inj (c2.2.2.2.1.symm.trans c1.2.2.2.1) (by omega) (by omega)⟩
  have off : ∀ m1 m2 : Nat → Nat → Int32, (∀ c, c < 10 ∨ 13 < c → m1 c = im c) → rgG m1 m2 → Inv (K + 1) m2 := fun m1 m2 r1 r2 => Inv_fr (fun c x q1 q2 q3 => by rw [r2 c x q2 (Or.inl q3), r1 c q1]) hI'
  have same : ∀ {t r : Nat} {m1 m2 : Nat → Nat → Int32} {c2 : Nat → Int32} {r2 : Nat}, t < 60 → resR im t (im (3 * t + 32)) r → (∀ c, 371 ≤ c → m1 c = im c) → rgG m1 m2 → resR m2 60 c2 r2 → (agA m2 t r2 16 = true ↔ ((∀ k, k < 80 → im (3 * t + 32) k = c2 k) ∧ r = r2)) := fun ht hr1 hm1 hg hr2 => agA_iff (resR_c (tE_f ht (fun c x y1 y2 y3 => by unfold xTx at y3; rw [hg c x (by unfold rgX; omega) (by omega), hm1 c (by omega)])) hr1) hr2
  refine x4 (m := M) (pr := fun t => tn (im (3 * t + 30) 0)) (len := ln) (op := op) (opd := od) hM m1 hM60 hpx (fun p hq => ⟨(hcd p hq).1.1, (hcd p hq).1.2.2⟩) (fun p hq i hi => ⟨((hcd p hq).2 i hi).1, ((hcd p hq).2 i hi).2.2.1⟩) (fun p hq i hi => ⟨((hcd p hq).2 i hi).2.2.2.1, ((hcd p hq).2 i hi).2.2.2.2.2⟩) (fun hk => ⟨_, rfl, Y im _ (fun _ _ => rfl) (fun _ => ⟨rfl, hI'⟩) (fun t p hc => absurd hc (hk t p)) (fun t p hc => absurd hc (hk t p))⟩) (fun t p ht hq ea eb c1 c2 c3 hr im' hF => ⟨_, rfl, Y im' _ (fun c hc => hF c (by omega)) (fun hk => absurd ⟨ht, hq, ea, eb, c1, c2, c3⟩ (hk t p)) (fun t' p' hc' hr' m2 hg => ⟨rfl, off im' m2 hF hg⟩) (fun t' p' hc' q hr' => ?_)⟩) (fun t p ht hq ea eb c1 c2 c3 q hr im' hF hC => ⟨fun hne => ⟨_, rfl, Y im' _ (fun c hc => hF c (by omega)) (fun hk => absurd ⟨ht, hq, ea, eb, c1, c2, c3⟩ (hk t p)) (fun t' p' hc' hr' => ?_) (fun t' p' hc' q' hr' m2 hg hres => ?_)⟩, fun hok => ⟨_, rfl, Y (en_u2 (en_u2 (en_ur im' (3 * t + 32) (va_cpy (im' 13) (im' (3 * t + 32)) 0 0 80)) (3 * t + 31) 1 (im' 12 1)) (3 * t + 30) 2 (im (3 * t + 30) 2 ||| (1 <<< (nI p &&& 31)))) _ ?_ (fun hk => absurd ⟨ht, hq, ea, eb, c1, c2, c3⟩ (hk t p)) (fun t' p' hc' hr' => ?_) (fun t' p' hc' q' hr' m2 hg hres => ?_)⟩⟩)
  · obtain ⟨rfl, rfl⟩ := uni ⟨ht, hq, ea, eb, c1, c2, c3⟩ hc'
    rw [hr] at hr'
    cases hr'
  · obtain ⟨rfl, rfl⟩ := uni ⟨ht, hq, ea, eb, c1, c2, c3⟩ hc'
    rw [hr] at hr'
    cases hr'
  · obtain ⟨rfl, rfl⟩ := uni ⟨ht, hq, ea, eb, c1, c2, c3⟩ hc'
    rw [hr] at hr'
    cases hr'
    refine ⟨fun _ => ⟨rfl, off im' m2 hF hg⟩, fun hk => absurd ⟨hne.1, ?_⟩ hk⟩
    obtain ⟨r, r1, r2⟩ := (h4 t' (by omega)).2.2.2.2.2.2 hne.1
    have hs := same (by omega) r2 (fun c hc => hF c (by omega)) hg hres
    cases w : agA m2 t' q.1.2.2.2 16 with
    | false => rfl
    | true =>
      obtain ⟨e1, e2⟩ := hs.mp w
      refine absurd ⟨fun k hk => ?_, ?_⟩ hne.2
      · rw [hF (3 * t' + 32) (by omega), hC.2.2.2.1 k hk]; exact e1 k hk
      · rw [hF (3 * t' + 31) (by omega), r1, e2]; exact hC.2.2.2.2.1.symm
  · intro c hc
    rw [en_u2_off (by omega), en_u2_off (by omega), ur_ne (by omega), hF c (by omega)]
  · obtain ⟨rfl, rfl⟩ := uni ⟨ht, hq, ea, eb, c1, c2, c3⟩ hc'
    rw [hr] at hr'
    cases hr'
  · obtain ⟨rfl, rfl⟩ := uni ⟨ht, hq, ea, eb, c1, c2, c3⟩ hc'
    rw [hr] at hr'
    cases hr'
    have ht60 : t' < 60 := by omega
    have hR1 : ∀ c, 371 ≤ c → (en_u2 (en_u2 (en_ur im' (3 * t' + 32) (va_cpy (im' 13) (im' (3 * t' + 32)) 0 0 80)) (3 * t' + 31) 1 (im' 12 1)) (3 * t' + 30) 2 (im (3 * t' + 30) 2 ||| (1 <<< (nI p' &&& 31)))) c = im c := fun c hc => by rw [en_u2_off (by omega), en_u2_off (by omega), ur_ne (by omega), hF c (by omega)]
    refine ⟨fun hk => absurd hk.2 ?_, fun _ m' hkp hres2 => ⟨rfl, ?_⟩⟩
    · obtain ⟨r, r1, r2⟩ := (h4 t' ht60).2.2.2.2.2.2 hk.1
      have hs := same ht60 r2 hR1 hg hres
      have : agA m2 t' q.1.2.2.2 16 = true := by
        refine hs.mpr ?_
        by_cases w : (∀ k, k < 80 → im' (3 * t' + 32) k = im' 13 k) ∧ im' (3 * t' + 31) 1 = im' 12 1
        · refine ⟨fun k hk => ?_, ?_⟩
          · have := w.1 k hk
            rw [hF (3 * t' + 32) (by omega), hC.2.2.2.1 k hk] at this
            exact this
          · have := w.2
            rw [hF (3 * t' + 31) (by omega), r1, hC.2.2.2.2.1] at this
            exact nI_inj this (by have := r2.2.1; omega) (by have := hres.2.1; omega)
        · exact absurd ⟨hk.1, w⟩ hok
      rw [this]; decide
    obtain ⟨i1, ⟨⟨i2a, i2b⟩, i2c⟩, i3, i4, i5, i6, i7⟩ := h4 t' ht60
    obtain ⟨v1, v2, v3⟩ := bit_or _ i2b p' hq (by rw [← i2a]; exact c3)
    rw [← i2a] at v2 v3
    have hclf : cl t' = false := by have := i3.1.symm.trans c2; exact bI_z.mp this
    have F1 : ∀ c x, (c < 10 ∨ 13 < c) → rgX c x → c < 405 → ¬ kpX t' c x → (c ≠ 383 ∨ x ≠ t') → c ≠ 3 * t' + 32 → (c ≠ 3 * t' + 31 ∨ x ≠ 1) → (c ≠ 3 * t' + 30 ∨ x ≠ 2) → (en_u2 m' 383 t' (im (3 * t' + 30) 2 + (1 <<< (nI p' &&& 31)))) c x = im c x := fun c x f1 f2 f3 f4 f5 f6 f7 f8 => by rw [u2_ne f5, hkp c x f4, hg c x f2 (Or.inl f3), u2_ne f8, u2_ne f7, ur_ne f6, hF c f1]
    have D1 : (en_u2 m' 383 t' (im (3 * t' + 30) 2 + (1 <<< (nI p' &&& 31)))) (3 * t' + 30) 2 = nI (tn (im (3 * t' + 30) 2) + 2 ^ p') := by rw [u2_ne (by omega), hkp _ _ (by unfold kpX; omega), hg _ _ (by unfold rgX; omega) (by omega), u2_eq]; exact v2
    have D2 : (en_u2 m' 383 t' (im (3 * t' + 30) 2 + (1 <<< (nI p' &&& 31)))) 383 t' = nI (tn (im (3 * t' + 30) 2) + 2 ^ p') := by rw [u2_eq]; exact v3
    have D3 : (en_u2 m' 383 t' (im (3 * t' + 30) 2 + (1 <<< (nI p' &&& 31)))) (3 * t' + 31) 1 = nI q.1.2.2.2 := by rw [u2_ne (by omega), hkp _ _ (by unfold kpX; omega), hg _ _ (by unfold rgX; omega) (by omega), u2_ne (by omega), u2_eq]; exact hC.2.2.2.2.1
    have D4 : ∀ k, k < 80 → (en_u2 m' 383 t' (im (3 * t' + 30) 2 + (1 <<< (nI p' &&& 31)))) (3 * t' + 32) k = q.1.2.2.1 k := fun k hk => by rw [u2_ne (by omega), hkp _ _ (by unfold kpX; omega), hg _ _ (by unfold rgX; omega) (by omega), u2_ne (by omega), u2_ne (by omega), ur_eq, pk_cpy_in (by omega) (by omega), show 0 + (k - 0) = k by omega]; exact hC.2.2.2.1 k hk
    have D5 : resR ((en_u2 m' 383 t' (im (3 * t' + 30) 2 + (1 <<< (nI p' &&& 31))))) t' q.1.2.2.1 q.1.2.2.2 := resR_off (fun b b1 b2 => en_u2_off (by omega)) hres2
    have D6 : ∀ t2, t2 < 60 → t2 ≠ t' → tE im ((en_u2 m' 383 t' (im (3 * t' + 30) 2 + (1 <<< (nI p' &&& 31))))) t2 := fun t2 h2 hne => ⟨F1 _ _ (by omega) (by unfold rgX; omega) (by omega) (by unfold kpX; omega) (by omega) (by omega) (by omega) (by omega), fun k hk => ⟨F1 _ _ (by omega) (by unfold rgX; omega) (by omega) (by unfold kpX; omega) (by omega) (by omega) (by omega) (by omega), F1 _ _ (by omega) (by unfold rgX; omega) (by omega) (by unfold kpX; omega) (by omega) (by omega) (by omega) (by omega), F1 _ _ (by omega) (by unfold rgX; omega) (by omega) (by unfold kpX; omega) (by omega) (by omega) (by omega) (by omega)⟩, fun j hj => ⟨F1 _ _ (by omega) (by unfold rgX; omega) (by omega) (by unfold kpX; omega) (by omega) (by omega) (by omega) (by omega), F1 _ _ (by omega) (by unfold rgX; omega) (by omega) (by unfold kpX; omega) (by omega) (by omega) (by omega) (by omega), fun k hk => F1 _ _ (by omega) (by unfold rgX; omega) (by omega) (by unfold kpX; omega) (by omega) (by omega) (by omega) (by omega)⟩⟩
    have hS : chS im ((en_u2 m' 383 t' (im (3 * t' + 30) 2 + (1 <<< (nI p' &&& 31))))) N := chS_of hM60 hC60 h6 h7 h4 (fun _ => ruS_f (fun c x hx => by unfold xRu at hx; exact F1 c x (by omega) (by unfold rgX; omega) (by omega) (by unfold kpX; omega) (by omega) (by omega) (by omega) (by omega))) (fun b hb => F1 _ _ (by omega) (by unfold rgX; omega) (by omega) (by unfold kpX; omega) (by omega) (by omega) (by omega) (by omega)) (fun b hb => ⟨F1 _ _ (by omega) (by unfold rgX; omega) (by omega) (by unfold kpX; omega) (by omega) (by omega) (by omega) (by omega), fun i hi => F1 _ _ (by omega) (by unfold rgX; omega) (by omega) (by unfold kpX; omega) (by omega) (by omega) (by omega) (by omega)⟩) (fun t2 ht2 hc2 => by
      have hne : t2 ≠ t' := fun z => by rw [z, hclf] at hc2; cases hc2
      exact ⟨F1 _ _ (by omega) (by unfold rgX; omega) (by omega) (by unfold kpX; omega) (by omega) (by omega) (by omega) (by omega), F1 _ _ (by omega) (by unfold rgX; omega) (by omega) (by unfold kpX; omega) (by omega) (by omega) (by omega) (by omega), D6 t2 (by omega) hne⟩)
    generalize (en_u2 m' 383 t' (im (3 * t' + 30) 2 + (1 <<< (nI p' &&& 31)))) = mm at *
    refine ⟨M, W, C, N, ld, cl, sz, c, mb, iCt_f (fun c x hx => by unfold xCt at hx; exact F1 c x (by omega) (by unfold rgX; omega) (by omega) (by unfold kpX; omega) (by omega) (by omega) (by omega) (by omega)) h1, iCd_f (fun c x hx => by unfold xCd at hx; exact F1 c x (by omega) (by unfold rgX; omega) (by omega) (by unfold kpX; omega) (by omega) (by omega) (by omega) (by omega)) h2, iRu_f (fun c x hx => by unfold xRu at hx; exact F1 c x (by omega) (by unfold rgX; omega) (by omega) (by unfold kpX; omega) (by omega) (by omega) (by omega) (by omega)) h3, ?_, iWt_f (fun c x hx => by unfold xWt at hx; exact F1 c x (by omega) (by unfold rgX; omega) (by omega) (by unfold kpX; omega) (by omega) (by omega) (by omega) (by omega)) h5, iBk_f hC60 (fun c x hx => by unfold xBk at hx; exact F1 c x (by omega) (by unfold rgX; omega) (by omega) (by unfold kpX; omega) (by omega) (by omega) (by omega) (by omega)) h6, iCh_f (fun c x hx => by unfold xCh at hx; exact F1 c x (by omega) (by unfold rgX; omega) (by omega) (by unfold kpX; omega) (by omega) (by omega) (by omega) (by omega)) h7, iOr_f hC60 (fun c x hx => by unfold xOr at hx; exact F1 c x (by omega) (by unfold rgX; omega) (by omega) (by unfold kpX; omega) (by omega) (by omega) (by omega) (by omega)) (iOr_k h8), ?_⟩
    · intro t2 ht2
      by_cases z : t2 = t'
      · subst z
        have ne0 : mm (3 * t2 + 30) 2 ≠ 0 := by
          rw [D1]
          intro w
          have := nI_inj (b := 0) w (by omega) (by omega)
          have : 0 < 2 ^ p' := Nat.two_pow_pos p'
          omega
        refine ⟨fun h => ?_, ⟨?_, ?_⟩, ⟨?_, ?_⟩, fun h => absurd h (by omega), fun _ => ne0, fun h => absurd h ne0, fun _ => ⟨q.1.2.2.2, D3, resR_cc D4 D5⟩⟩
        · rw [F1 (3 * t2 + 30) 0 (by omega) (by unfold rgX; omega) (by omega) (by unfold kpX; omega) (by omega) (by omega) (by omega) (by omega), F1 (3 * t2 + 30) 1 (by omega) (by unfold rgX; omega) (by omega) (by unfold kpX; omega) (by omega) (by omega) (by omega) (by omega), F1 381 t2 (by omega) (by unfold rgX; omega) (by omega) (by unfold kpX; omega) (by omega) (by omega) (by omega) (by omega), F1 382 t2 (by omega) (by unfold rgX; omega) (by omega) (by unfold kpX; omega) (by omega) (by omega) (by omega) (by omega)]
          exact i1 h
        · rw [D1]; exact isN_of v1 (by decide)
        · rw [D1, D2]
        · rw [F1 (3 * t2 + 30) 3 (by omega) (by unfold rgX; omega) (by omega) (by unfold kpX; omega) (by omega) (by omega) (by omega) (by omega)]; exact i3.1
        · rw [F1 384 t2 (by omega) (by unfold rgX; omega) (by omega) (by unfold kpX; omega) (by omega) (by omega) (by omega) (by omega)]; exact i3.2
      · exact iT1_f (fun c x hc => F1 c x (by omega) (by unfold rgX; omega) (by omega) (by unfold kpX; omega) (by omega) (by omega) (by omega) (by omega)) ⟨F1 _ _ (by omega) (by unfold rgX; omega) (by omega) (by unfold kpX; omega) (by omega) (by omega) (by omega) (by omega), F1 _ _ (by omega) (by unfold rgX; omega) (by omega) (by unfold kpX; omega) (by omega) (by omega) (by omega) (by omega), F1 _ _ (by omega) (by unfold rgX; omega) (by omega) (by unfold kpX; omega) (by omega) (by omega) (by omega) (by omega), F1 _ _ (by omega) (by unfold rgX; omega) (by omega) (by unfold kpX; omega) (by omega) (by omega) (by omega) (by omega)⟩ (D6 t2 ht2 z) (h4 t2 ht2)
    · exact iPe_f (fun c x hx => by unfold xPe at hx; exact F1 c x (by omega) (by unfold rgX; omega) (by omega) (by unfold kpX; omega) (by omega) (by omega) (by omega) (by omega)) hS h9
end PAIRH
