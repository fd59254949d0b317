/-! THE LAW, part 3: from its first place *-/
theorem isL_f {im im' : Nat → Nat → Int32} {rm rm' : Nat → Nat → Option Nat} (h : ∀ c, c < 371 → im' c = im c ∧ rm' c = rm c) (hi : isL im rm) : isL im' rm' := by
  obtain ⟨a0, a1, a2, a3, a4, a5, a6, a7, a8, a9, a10, a11, a12, a13, a14, a15, a16, a17, a18, a19⟩ := hi
  exact ⟨fun k => by rw [(h 1 (by decide)).1]; exact a0 k, fun c h1 h2 k => by rw [(h c (by omega)).1]; exact a1 c h1 h2 k, fun k => by rw [(h 13 (by decide)).1]; exact a2 k, by rw [(h 1 (by decide)).2]; exact a3, by rw [(h 1 (by decide)).2]; exact a4, by rw [(h 1 (by decide)).2]; exact a5, by rw [(h 1 (by decide)).2]; exact a6, by rw [(h 1 (by decide)).2]; exact a7, by rw [(h 1 (by decide)).2]; exact a8, by rw [(h 1 (by decide)).2]; exact a9, by rw [(h 1 (by decide)).2]; exact a10, by rw [(h 7 (by decide)).2]; exact a11, by rw [(h 10 (by decide)).2]; exact a12, by rw [(h 10 (by decide)).2]; exact a13, by rw [(h 12 (by decide)).2]; exact a14, fun p hp => ⟨by rw [(h 2 (by decide)).2]; exact (a15 p hp).1, oPr_f (fun c h1 h2 => h c (by omega)) (a15 p hp).2⟩, fun p hp => ⟨by rw [(h 3 (by decide)).2]; exact (a16 p hp).1, oTx_f (fun c h1 h2 => h c (by omega)) (a16 p hp).2⟩, fun p hp => ⟨by rw [(h 5 (by decide)).2]; exact (a17 p hp).1, oBk_f (fun c h1 h2 => h c (by omega)) (a17 p hp).2⟩, fun p hp => ⟨by rw [(h 6 (by decide)).2]; exact (a18 p hp).1, oOr_f (fun c h1 h2 => h c (by omega)) (a18 p hp).2⟩, fun p hp => ⟨by rw [(h 9 (by decide)).2]; exact (a19 p hp).1, oPe_f (fun c h1 h2 => h c (by omega)) (a19 p hp).2⟩⟩
theorem isL_Ld {LS : Nat} {im : Nat → Nat → Int32} {rm : Nat → Nat → Option Nat} (hi : isL im rm) : isLd LS rm := by
  obtain ⟨a0, a1, a2, a3, a4, a5, a6, a7, a8, a9, a10, a11, a12, a13, a14, a15, a16, a17, a18, a19⟩ := hi
  refine ⟨⟨hS1, a3, a4, a5, a6, a7, a8, a9, a10, hS2, hS3, hS4, hS5, hS6, ⟨hS7, a11, hS8⟩, hS9, ⟨hS10, a12, a13, hS11, ⟨hS12, a14, hS13⟩⟩⟩, fun p hp => ?_, fun p hp => ?_, fun p hp => ?_, fun p hp => ?_, fun p hp => ?_⟩
  · obtain ⟨s0, s1, s2, s3⟩ := hFPr p hp
    obtain ⟨r0, -, r1, r2, r3⟩ := a15 p hp
    exact ⟨r0, SH_at s0, r1, r2, r3, SH_at s1, SH_at s2, SH_at s3⟩
  · obtain ⟨s0, s1, s2⟩ := hFTx p hp
    obtain ⟨r0, -, -, -, r1, r2⟩ := a16 p hp
    exact ⟨r0, SH_at s0, r1, SH_at s1, r2, SH_at s2⟩
  · obtain ⟨s0, s1⟩ := hFBk p hp
    obtain ⟨r0, -, r1⟩ := a17 p hp
    exact ⟨r0, SH_at s0, r1, SH_at s1⟩
  · obtain ⟨s0, s1, s2⟩ := hFOr p hp
    obtain ⟨r0, -, -, -, r1, r2⟩ := a18 p hp
    exact ⟨r0, SH_at s0, r1, SH_at s1, r2, SH_at s2⟩
  · obtain ⟨s0, s1, s2, s3, s4, s5, s6, s7⟩ := hFPe p hp
    obtain ⟨r0, -, -, r1, r2, r3, r4, r5, r6, r7⟩ := a19 p hp
    exact ⟨r0, SH_at s0, r1, r2, r3, ⟨SH_at s1, r4, r5, SH_at s2, SH_at s3⟩, ⟨SH_at s4, r6, r7, SH_at s5, SH_at s6⟩, SH_at s7⟩
theorem mo_fl : ∀ k, k < 45 → moAl.getD k 0 ≠ 0 → ∃ q, q < 38 ∧ fl86.getD q 0 = k ∧ 372 + q = moAl.getD k 0 := by decide +kernel
theorem jM_Mo {LS : Nat} {im0 im : Nat → Nat → Int32} {rm0 rm : Nat → Nat → Option Nat} (h : jM im0 rm0 38 (-1) im rm) : isMo LS rm := by
  intro k hk hne
  obtain ⟨q, hq, e1, e2⟩ := mo_fl k hk hne
  have := h.2.2.2 q hq
  rw [e1, e2] at this
  exact this
theorem FS_0 (im : Nat → Nat → Int32) (k : Nat) : (FS im 0).1 k = 0 ∧ (FS im 0).2.1 k = 0 := ⟨rfl, rfl⟩
theorem Inv_0 {im : Nat → Nat → Int32} {rm : Nat → Nat → Option Nat} (hL : isL im rm) (h1 : ∀ k, im 371 k = if k = 34 then -1 else 0) (h2 : ∀ c, 372 ≤ c → c < 410 → ∀ k, im c k = 0) : Inv 0 im := by
  obtain ⟨a0, a1, a2, a3, a4, a5, a6, a7, a8, a9, a10, a11, a12, a13, a14, a15, a16, a17, a18, a19⟩ := hL
  have z0 : ∀ k, k ≠ 8 → im 1 k = nI 0 := fun k hk => by rw [a0 k, if_neg hk]; rfl
  have y0 : ∀ k, k ≠ 34 → im 371 k = nI 0 := fun k hk => by rw [h1 k, if_neg hk]; rfl
  refine ⟨0, 0, 0, 0, 3, fun _ => false, fun _ => 0, fun _ => 0, fun _ _ => 0, ?_, ?_, ?_, ?_, fun i hi => absurd hi (by omega), fun i hi => absurd hi (by omega), fun i hi => absurd hi (by omega), ?_, ?_⟩
  · refine ⟨⟨z0 2 (by decide), y0 9 (by decide), by decide⟩, ⟨z0 4 (by decide), y0 25 (by decide), by decide⟩, ⟨z0 6 (by decide), y0 26 (by decide), by decide⟩, ⟨a1 7 (by decide) (by decide) 1, y0 36 (by decide), by decide⟩, ?_, Or.inl ⟨?_, rfl⟩⟩
    · rw [h1 34, a0 8]; rfl
    · rw [a0 8]; rfl
  · refine ⟨fun _ => 0, fun _ _ => 0, fun _ _ => 0, fun p hp => ⟨⟨?_, h2 372 (by decide) (by decide) p, Nat.zero_le _⟩, fun i hi => absurd hi (Nat.not_lt_zero i)⟩⟩
    exact (a15 p hp).2.1 0 (by decide) 2
  · intro p hp
    have e1 : rR im p = 0 := by unfold rR; rw [h2 375 (by decide) (by decide)]; rfl
    have e2 : rH im p = 0 := by unfold rH; rw [h2 380 (by decide) (by decide)]; rfl
    unfold okR
    rw [e1, e2]
    exact ⟨⟨h2 375 (by decide) (by decide) p, by decide, h2 380 (by decide) (by decide) p, by decide, fun i hi => absurd hi (by omega), fun hi => absurd hi (by omega)⟩, (a15 p hp).2.1 0 (by decide) 4, (a15 p hp).2.1 0 (by decide) 5, by decide, fun i hi => absurd hi (by omega)⟩
  · intro t ht
    obtain ⟨-, b1, b2, b3, -⟩ := a16 t ht
    have e2 : im (3 * t + 30) 2 = 0 := b1 2
    refine ⟨fun h => absurd h (by omega), ⟨?_, ?_⟩, ⟨b1 3, h2 384 (by decide) (by decide) t⟩, fun _ => ⟨e2, rfl⟩, fun h => absurd h Bool.false_ne_true, fun _ => ⟨h2 388 (by decide) (by decide) t, b2 1, fun k _ => b3 k⟩, fun h => absurd e2 h⟩
    · rw [e2]; exact isN_of (n := 0) (by decide) (by decide)
    · rw [e2]; exact h2 383 (by decide) (by decide) t
  · refine ⟨fun _ => true, fun _ => 0, fun _ => 0, fun _ => 0, fun _ _ => 0, 0, fun o ho => ?_, fun b hb => absurd hb (by omega), ag_0 (fun _ _ => rfl) (fun _ _ => rfl)⟩
    obtain ⟨-, b1, b2, b3, -⟩ := a18 o ho
    refine ⟨⟨?_, h2 397 (by decide) (by decide) o⟩, ⟨?_, h2 398 (by decide) (by decide) o, Nat.zero_le _⟩, ⟨b2 1, h2 400 (by decide) (by decide) o, Nat.zero_le _⟩, fun i hi => absurd hi (Nat.not_lt_zero i)⟩
    · rw [b1 0]; rfl
    · rw [b1 1]; rfl
  · refine ⟨fun _ => true, fun _ => 0, fun _ => 0, fun p hp => ?_⟩
    obtain ⟨-, b1, b2, -⟩ := a19 p hp
    have e2 : im (8 * p + 340) 2 = 0 := b2 1 (by decide) (by decide) 2
    refine ⟨⟨?_, h2 402 (by decide) (by decide) p⟩, ⟨?_, h2 403 (by decide) (by decide) p, Nat.zero_le _⟩, ⟨b2 4 (by decide) (by decide) 2, h2 404 (by decide) (by decide) p, Nat.zero_le _, rfl, fun _ => (show 0 = 0 / 4 * 4 by decide)⟩, ⟨?_, fun _ => e2⟩, fun k _ => ⟨b2 5 (by decide) (by decide) k, b2 6 (by decide) (by decide) k⟩, fun _ k _ => ⟨b2 2 (by decide) (by decide) k, b2 3 (by decide) (by decide) k⟩, fun b hb => absurd hb (by simp)⟩
    · rw [b1 0]; rfl
    · rw [b1 1]; rfl
    · rw [e2]; exact isN_of (n := 0) (by decide) (by decide)
theorem c_gm {LS i pc : Nat} {L st : List Value} {im : Nat → Nat → Int32} {rm : Nat → Nat → Option Nat} {P : Option Value → (Nat → Nat → Int32) → (Nat → Nat → Option Nat) → Prop} (kk : Gm LS rm i pc L st im (fun r im' => P r im' rm)) : Cn LS 410 i pc L st 410 im rm P := by
  have e : sl LS 410 = ((SH LS).map Prod.snd).sum := by unfold sl; rw [tk_all]
  unfold Gm at kk
  rw [SH_len] at kk
  unfold Cn
  rw [e, tk_all]
  exact en_mono (fun r M' hM => by obtain ⟨im', e, hp⟩ := hM; exact ⟨im', rm, e, hp⟩) kk
set_option maxRecDepth 20000 in
set_option maxHeartbeats 4000000 in
theorem law_cn {LS : Nat} {im : Nat → Nat → Int32} {rm : Nat → Nat → Option Nat} (hLS : LS ≤ 300000) : Cn LS 410 123 0 (en_in 123 [.ref 0]) [] 1 im rm (fun r _ _ => r = some (.int 1)) := by
  show Cn LS 410 123 0 [.ref 0, .long 0, .long 0, .long 0] [] 1 im rm _
  refine c_new (b2 := 2) k123_0 rfl hS1 (by decide) (by decide) (by decide) rfl ?_
  refine c_dup k123_3 rfl ?_
  refine c_invI (B' := 371) k123_4 (by decide) (by decide) (Nat.le_of_ble_eq_true rfl) (by decide) (by decide) (by decide) (n0 (by rw [ur_eq]) (fun im1 rm1 v1 hL => ⟨rfl, ?_⟩))
  refine c_astore_n k123_7 (by decide) rfl ?_
  refine c_new (b2 := 372) k123_8 rfl sM371 (by decide) (by decide) (by decide) rfl ?_
  refine c_dup k123_11 rfl ?_
  refine c_invI (B' := 410) k123_12 (by decide) (by decide) (Nat.le_of_ble_eq_true rfl) (by decide) (by decide) (by decide) (n86 (by rw [ur_eq]) (fun im2 rm2 J => ⟨rfl, ?_⟩))
  refine c_astore_n k123_15 (by decide) rfl ?_
  refine c_iconst (v := 0) k123_16 ic_0 ?_
  refine c_istore_n k123_17 (by decide) rfl ?_
  have hL2 : isL im2 rm2 := isL_f (fun c hc => ⟨by rw [(J.1 c hc).1, ur_ne (by omega)], by rw [(J.1 c hc).2, ur_ne (by omega)]⟩) hL
  refine c_gm ?_
  exact lw_loop (isL_Ld hL2) (jM_Mo J) hLS (fun _ => rfl) (LS + 1) 0 im2 (by omega) (by omega) (Inv_0 hL2 J.2.1 (fun c c1 c2 k => J.2.2.1 c c1 (by omega) k))
