section PAIRD
variable {LS : Nat} {rm : Nat → Nat → Option Nat} {K : Nat} {im : Nat → Nat → Int32}

theorem iPe_1 {m : Nat → Nat → Int32} {N p s v : Nat} {sz c : Nat → Nat} {pu : Nat → Bool} {st sv : Nat → Nat} {u : Bool} (hS : chS im m N) (hp : ∀ q, q < 4 → iP1 im N sz c q (pu q) (st q) (sv q)) (off : ∀ q, q < 4 → q ≠ p → (∀ b x, (8 * q + 339 ≤ b ∧ b < 8 * q + 347) → m b x = im b x) ∧ m 402 q = im 402 q ∧ m 403 q = im 403 q ∧ m 404 q = im 404 q) (new : iP1 m N sz c p u s v) : iPe m N sz c := by
  refine ⟨fun q => if q = p then u else pu q, fun q => if q = p then s else st q, fun q => if q = p then v else sv q, fun q hq => ?_⟩
  by_cases z : q = p
  · subst z
    simp only [if_true]
    exact new
  · simp only [if_neg z]
    exact iP1_f hq (off q hq z).1 (off q hq z).2 hS (hp q hq)
theorem FS_v {m : Nat → Nat → Int32} {N h : Nat} (hS : chS im m N) (hl : h ≤ N) : FS m h = FS im h := FS_c (chS_le hS hl)
theorem vc_eq {f g : Nat → Int32} : ∀ n, (∀ j, j < n → f j = g j) → vcN f n = vcN g n := by
  intro n
  induction n with
  | zero => intro _; rfl
  | succ n ih => intro h; show vcN f n + (if f n = 0 then 1 else 0) = vcN g n + (if g n = 0 then 1 else 0); rw [ih (fun j hj => h j (by omega)), h n (by omega)]
theorem p_11 {a1 : Int32} (hM : isLd LS rm) (hO : isMo LS rm) (hI : Inv K im) : PX LS rm K im 11 114 [.int a1] := by
  have hI' := Inv_k hI
  obtain ⟨M, W, C, N, ld, cl, sz, c, mb, h1, h2, h3, h4, h5, h6, h7, h8, h9⟩ := hI
  obtain ⟨m1, m2, hM60⟩ := h1.1
  have hC60 := h1.2.2.1.2.2
  have hN40 := h1.2.2.2.1.2.2
  obtain ⟨pu, st, sv, hp⟩ := h9
  obtain ⟨n1, n2, -⟩ := h1.2.2.2.1
  have hsx : ∀ p, p < 4 → im (8 * p + 339) 1 = nI (st p) ∧ st p ≤ 40 := fun p hq => ⟨(hp p hq).2.1.1, by have := (hp p hq).2.1.2.2; omega⟩
  have hsy : ∀ p, p < 4 → im 403 p = nI (st p) ∧ st p ≤ N := fun p hq => ⟨(hp p hq).2.1.2.1, (hp p hq).2.1.2.2⟩
  refine x11 (c := N) (st := st) hM n1 hN40 hsx (fun p hq e hu hlt => ⟨_, rfl, ?_⟩) (fun hk => ⟨_, rfl, y11 (c := N) (st := st) hO n2 hN40 hsy (fun p hq e hu hlt => absurd ⟨hq, e, (pu_x (hp p hq)).1.mpr ((pu_x (hp p hq)).2.mp hu), hlt⟩ (hk p)) (fun _ => ⟨rfl, hI'⟩)⟩)
  have hu' := (pu_x (hp p hq)).1.mp hu
  refine y11 (c := N) (st := st) hO (by rw [u2_ne (by omega), u2_ne (by omega)]; exact n2) hN40 (fun r hr => ⟨by rw [u2_ne (by omega), u2_ne (by omega)]; exact (hsy r hr).1, (hsy r hr).2⟩) (fun p' hq' e' _ _ => ⟨rfl, ?_⟩) (fun h => absurd ⟨hq, e, by rw [u2_ne (by omega), u2_ne (by omega)]; exact (pu_x (hp p hq)).2.mpr hu', hlt⟩ (h p))
  have z1 := nI_inj (e'.symm.trans e) (by omega) (by omega)
  subst z1
  clear hq' e'
  refine ⟨M, W, C, N, ld, cl, sz, c, mb, iCt_f (fun c x hx => by unfold xCt at hx; rw [u2_ne (by omega), u2_ne (by omega), u2_ne (by omega), u2_ne (by omega)]) h1, iCd_f (fun c x hx => by unfold xCd at hx; rw [u2_ne (by omega), u2_ne (by omega), u2_ne (by omega), u2_ne (by omega)]) h2, iRu_f (fun c x hx => by unfold xRu at hx; rw [u2_ne (by omega), u2_ne (by omega), u2_ne (by omega), u2_ne (by omega)]) h3, iTx_f (fun c x hx => by unfold xTx at hx; rw [u2_ne (by omega), u2_ne (by omega), u2_ne (by omega), u2_ne (by omega)]) h4, iWt_f (fun c x hx => by unfold xWt at hx; rw [u2_ne (by omega), u2_ne (by omega), u2_ne (by omega), u2_ne (by omega)]) h5, iBk_f hC60 (fun c x hx => by unfold xBk at hx; rw [u2_ne (by omega), u2_ne (by omega), u2_ne (by omega), u2_ne (by omega)]) h6, iCh_f (fun c x hx => by unfold xCh at hx; rw [u2_ne (by omega), u2_ne (by omega), u2_ne (by omega), u2_ne (by omega)]) h7, iOr_f hC60 (fun c x hx => by unfold xOr at hx; rw [u2_ne (by omega), u2_ne (by omega), u2_ne (by omega), u2_ne (by omega)]) (iOr_k h8), ?_⟩
  have hS : chS im (en_u2 (en_u2 (en_u2 (en_u2 im (8 * p' + 339) 1 (nI (st p' + 1))) (8 * p' + 339) 0 0) 403 p' (nI (st p' + 1))) 402 p' 1) N := chS_fr hM60 hC60 h6 h7 h4 (fun c x hx => by unfold xTx at hx; rw [u2_ne (by omega), u2_ne (by omega), u2_ne (by omega), u2_ne (by omega)])
  refine iPe_1 (p := p') (u := false) (s := st p' + 1) (v := sv p') hS hp (fun q hq2 hne => ⟨fun b x hb => by rw [u2_ne (by omega), u2_ne (by omega), u2_ne (by omega), u2_ne (by omega)], by rw [u2_ne (by omega), u2_ne (by omega), u2_ne (by omega), u2_ne (by omega)], by rw [u2_ne (by omega), u2_ne (by omega), u2_ne (by omega), u2_ne (by omega)], by rw [u2_ne (by omega), u2_ne (by omega), u2_ne (by omega), u2_ne (by omega)]⟩) ?_
  obtain ⟨a1, a2, a3, a4, a5, a6, a7⟩ := hp p' hq
  have hsN : sv p' ≤ N := by omega
  refine ⟨⟨by rw [u2_ne (by omega), u2_ne (by omega), u2_eq]; rfl, by rw [u2_eq]; rfl⟩, ⟨by rw [u2_ne (by omega), u2_ne (by omega), u2_ne (by omega), u2_eq], by rw [u2_ne (by omega), u2_eq], by omega⟩, ⟨by rw [u2_ne (by omega), u2_ne (by omega), u2_ne (by omega), u2_ne (by omega)]; exact a3.1, by rw [u2_ne (by omega), u2_ne (by omega), u2_ne (by omega), u2_ne (by omega)]; exact a3.2.1, by omega, a3.2.2.2.1, fun h => absurd h (by decide)⟩, ⟨by rw [u2_ne (by omega), u2_ne (by omega), u2_ne (by omega), u2_ne (by omega)]; exact a4.1, fun h => absurd h (by decide)⟩, fun k hk => ?_, fun h => absurd h (by decide), fun b hb j hj => ?_⟩
  · rw [FS_v hS hsN, u2_ne (by omega), u2_ne (by omega), u2_ne (by omega), u2_ne (by omega), u2_ne (by omega), u2_ne (by omega), u2_ne (by omega), u2_ne (by omega)]; exact a5 k hk
  · have hb' : b < sv p' := hb
    rw [FS_v hS (by omega), u2_ne (by omega), u2_ne (by omega), u2_ne (by omega), u2_ne (by omega)]
    exact a7 b (by rw [if_pos hu']; omega) j hj
theorem p_10 {a1 : Int32} (hM : isLd LS rm) (hO : isMo LS rm) (hI : Inv K im) : PX LS rm K im 10 113 [.int a1] := by
  have hI' := Inv_k hI
  obtain ⟨M, W, C, N, ld, cl, sz, c, mb, h1, h2, h3, h4, h5, h6, h7, h8, h9⟩ := hI
  obtain ⟨m1, m2, hM60⟩ := h1.1
  have hC60 := h1.2.2.1.2.2
  have hN40 := h1.2.2.2.1.2.2
  obtain ⟨pu, st, sv, hp⟩ := h9
  obtain ⟨n1, n2, -⟩ := h1.2.2.2.1
  have hsx : ∀ p, p < 4 → im (8 * p + 339) 1 = nI (st p) ∧ st p ≤ 40 := fun p hq => ⟨(hp p hq).2.1.1, by have := (hp p hq).2.1.2.2; omega⟩
  have hsy : ∀ p, p < 4 → im 403 p = nI (st p) ∧ st p ≤ N := fun p hq => ⟨(hp p hq).2.1.2.1, (hp p hq).2.1.2.2⟩
  refine x10 (c := N) (st := st) hM n1 hN40 hsx (fun p hq hu => (hp p hq).2.2.2.1.2 ((pu_x (hp p hq)).1.mp hu)) (okC_of hM60 hC60 h6 h7 h4 h3) (fun p hq e hu hlt => ⟨_, rfl, ?_⟩) (fun hk => ⟨_, rfl, y10 (c := N) (st := st) hO n2 hN40 hsy (okG_of hM60 hC60 h6 h7 h4 h3) (fun p hq e hu hlt _ _ => absurd ⟨hq, e, (pu_x (hp p hq)).1.mpr ((pu_x (hp p hq)).2.mp hu), hlt⟩ (hk p)) (fun _ => ⟨rfl, hI'⟩)⟩)
  have hu' := (pu_x (hp p hq)).1.mp hu
  have s40 := (hsx p hq).2
  have F0 : ∀ c x, (c < 8 * p + 339 ∨ 8 * p + 347 ≤ c) → apN p (st p) (en_u2 im (8 * p + 339) 1 (nI (st p + 1))) c x = im c x := fun c x hx => by rw [apN_lt (by omega), u2_ne (by omega)]
  have b6 : iBk (apN p (st p) (en_u2 im (8 * p + 339) 1 (nI (st p + 1)))) M C cl sz mb := iBk_f hC60 (fun c x hx => by unfold xBk at hx; exact F0 c x (by omega)) h6
  have b7 : iCh (apN p (st p) (en_u2 im (8 * p + 339) 1 (nI (st p + 1)))) C N c := iCh_f (fun c x hx => by unfold xCh at hx; exact F0 c x (by omega)) h7
  have b4 : iTx (apN p (st p) (en_u2 im (8 * p + 339) 1 (nI (st p + 1)))) M cl := iTx_f (fun c x hx => by unfold xTx at hx; exact F0 c x (by omega)) h4
  have b3 : iRu (apN p (st p) (en_u2 im (8 * p + 339) 1 (nI (st p + 1)))) := iRu_f (fun c x hx => by unfold xRu at hx; exact F0 c x (by omega)) h3
  obtain ⟨a1, a2, a3, a4, a5, a6, a7⟩ := hp p hq
  have hPS : PS im (en_u2 im (8 * p + 339) 1 (nI (st p + 1))) sz c p (st p) (sv p) := by
    refine ⟨fun k hk => ?_, ⟨by rw [u2_ne (by omega)]; exact a3.1, fun k hk => ?_⟩, fun b hb j hj => ?_⟩
    · rw [u2_ne (by omega), u2_ne (by omega)]; exact a6 hu' k hk
    · rw [u2_ne (by omega), u2_ne (by omega)]; exact a5 k hk
    · rw [u2_ne (by omega)]; exact a7 b (by rw [if_pos hu']; exact hb) j hj
  obtain ⟨⟨P1, ⟨P2, P3⟩, P4⟩, P5, P6⟩ := PS_ap hM60 hC60 h6 h7 h4 h3 (p := p) (fun c hc => en_u2_off (by omega)) hlt hPS
  have esz : szv (en_u2 im (8 * p + 339) 1 (nI (st p + 1))) (chv (en_u2 im (8 * p + 339) 1 (nI (st p + 1))) (st p)) = szv im (chv im (st p)) := by
    unfold szv chv
    rw [u2_ne (by omega), u2_ne (by omega)]
  rw [esz] at P5
  rw [P5]
  generalize hm1 : apN p (st p) (en_u2 im (8 * p + 339) 1 (nI (st p + 1))) = m1 at *
  have up' : m1 402 p = 0 := by rw [F0 _ _ (by omega)]; exact (pu_x (hp p hq)).2.mpr hu'
  refine y10 (c := N) (st := st) hO (by rw [F0 _ _ (by omega)]; exact n2) hN40 (fun r hr => ⟨by rw [F0 _ _ (by omega)]; exact (hsy r hr).1, (hsy r hr).2⟩) (okG_of hM60 hC60 b6 b7 b4 b3) (fun p' hq' e' _ _ m hg => ?_) (fun h => absurd ⟨hq, e, up', hlt⟩ (h p))
  have z1 := nI_inj (e'.symm.trans e) (by omega) (by omega)
  subst z1
  clear hq' e'
  have F1 : ∀ c x, (c < 8 * p' + 339 ∨ 8 * p' + 347 ≤ c) → (c ≠ 403 ∨ x ≠ p') → (c ≠ 404 ∨ x ≠ p') → dl1 m1 p' (st p') c x = im c x := fun c x hx h1 h2 => by unfold dl1; rw [u2_ne h2, u2_ne h1]; exact F0 c x hx
  have hS : chS im (dl1 m1 p' (st p')) N := chS_fr hM60 hC60 h6 h7 h4 (fun c x hx => by unfold xTx at hx; exact F1 c x (by omega) (by omega) (by omega))
  have eans : vcN (gCh (dl1 m1 p' (st p')) (m1 407) (st p' + 1)).2.2.2 (tn (m1 395 (tn (m1 401 (st p'))))) = vcN (FS im (st p' + 1)).2.2.2 (sz (c (st p'))) := by
    have hcb := (h7 (st p') hlt).2.2
    have e1 : ∀ m : Nat → Nat → Int32, iBk m M C cl sz mb → iCh m C N c → tn (m 395 (tn (m 401 (st p')))) = sz (c (st p')) := fun m q6 q7 => by rw [(ch_v hC60 q7 hlt).1, (bk_v hM60 q6 hcb).1]
    rw [e1 m1 b6 b7]
    refine vc_eq _ (fun j hj => ?_)
    have e2 := (gCh_f (im := dl1 m1 p' (st p')) (m1 407) (fun _ => 0) (st p' + 1)).2.2.2 (st p') rfl j (by
      have e3 : dl1 m1 p' (st p') 395 = m1 395 := by unfold dl1; rw [en_u2_off (by decide), en_u2_off (by decide)]
      have e4 : dl1 m1 p' (st p') 401 = m1 401 := by unfold dl1; rw [en_u2_off (by decide), en_u2_off (by decide)]
      rw [e3, e4, e1 m1 b6 b7]; exact hj)
    rw [e2]
    exact congrFun (congrArg (fun s : gS => s.2.2.2) (FS_v hS (show st p' + 1 ≤ N by omega))) j
  refine ⟨by rw [eans], Inv_GR (fun c hc => hg.1 c hc) ?_⟩
  refine ⟨M, W, C, N, ld, cl, sz, c, mb, iCt_f (fun c x hx => by unfold xCt at hx; exact F1 c x (by omega) (by omega) (by omega)) h1, iCd_f (fun c x hx => by unfold xCd at hx; exact F1 c x (by omega) (by omega) (by omega)) h2, iRu_f (fun c x hx => by unfold xRu at hx; exact F1 c x (by omega) (by omega) (by omega)) h3, iTx_f (fun c x hx => by unfold xTx at hx; exact F1 c x (by omega) (by omega) (by omega)) h4, iWt_f (fun c x hx => by unfold xWt at hx; exact F1 c x (by omega) (by omega) (by omega)) h5, iBk_f hC60 (fun c x hx => by unfold xBk at hx; exact F1 c x (by omega) (by omega) (by omega)) h6, iCh_f (fun c x hx => by unfold xCh at hx; exact F1 c x (by omega) (by omega) (by omega)) h7, iOr_f hC60 (fun c x hx => by unfold xOr at hx; exact F1 c x (by omega) (by omega) (by omega)) (iOr_k h8), ?_⟩
  refine iPe_1 (p := p') (u := true) (s := st p' + 1) (v := (st p' + 1) / 4 * 4) hS hp (fun q hq2 hne => ⟨fun b x hb => F1 b x (by omega) (by omega) (by omega), F1 _ _ (by omega) (by omega) (by omega), F1 _ _ (by omega) (by omega) (by omega), F1 _ _ (by omega) (by omega) (by omega)⟩) ?_
  have D : ∀ c x, c < 403 → dl1 m1 p' (st p') c x = m1 c x := fun c x hx => by unfold dl1; rw [u2_ne (by omega), u2_ne (by omega)]
  have esv : (if (st p' + 1) % 4 = 0 then st p' + 1 else sv p') = (st p' + 1) / 4 * 4 := by
    have := a3.2.2.2.2 hu'
    split <;> omega
  rw [esv] at P2 P3
  refine ⟨⟨?_, ?_⟩, ⟨?_, ?_, by omega⟩, ⟨?_, ?_, by omega, by omega, fun _ => rfl⟩, ⟨?_, fun _ => ?_⟩, fun k hk => ?_, fun _ k hk => ?_, fun b hb j hj => ?_⟩
  · rw [D _ _ (by omega), ← hm1, apN_lt (by omega), u2_ne (by omega), a1.1, hu']
  · rw [D _ _ (by omega), F0 _ _ (by omega), a1.2, hu']
  · rw [D _ _ (by omega), ← hm1, apN_lt (by omega), u2_eq]
  · unfold dl1; rw [u2_ne (by omega), u2_eq]
  · rw [D _ _ (by omega)]; exact P2
  · unfold dl1; rw [u2_eq]
  · rw [D _ _ (by omega), P6]; exact isN_of (by omega) (by omega)
  · rw [D _ _ (by omega)]; exact P6
  · rw [FS_v hS (by omega), D _ _ (by omega), D _ _ (by omega)]; exact P3 k hk
  · rw [FS_v hS (by omega), D _ _ (by omega), D _ _ (by omega)]; exact P1 k hk
  · rw [if_pos rfl] at hb
    rw [FS_v hS (by omega), D _ _ (by omega)]; exact P4 b hb j hj
theorem nI_nm {n : Nat} (h : n < 1000) : nI n ≠ -1 := fun z => by
  have := nI_nn h
  rw [z] at this
  exact absurd this (by decide)
theorem pw_x {u : Bool} {y : Int32} (hy : y = 0 ∨ y = 1) : bI u ≠ y ↔ bI (!u) = y := by
  rcases hy with rfl | rfl <;> cases u <;> decide
theorem pw_y {u : Bool} {y : Int32} (h : bI (!u) = y) : (y = 0 ↔ u = true) ∧ (if y = 0 then (1 : Int32) else 0) = bI u := by
  subst h
  cases u <;> decide
theorem p_9 {a1 y : Int32} (hy : y = 0 ∨ y = 1) (hM : isLd LS rm) (hO : isMo LS rm) (hI : Inv K im) : PX LS rm K im 9 112 [.int a1, .int y] := by
  have hI' := Inv_k hI
  obtain ⟨M, W, C, N, ld, cl, sz, c, mb, h1, h2, h3, h4, h5, h6, h7, h8, h9⟩ := hI
  obtain ⟨m1, m2, hM60⟩ := h1.1
  have hC60 := h1.2.2.1.2.2
  have hN40 := h1.2.2.2.1.2.2
  obtain ⟨pu, st, sv, hp⟩ := id h9
  obtain ⟨up, tm, n, T, g, G, g1, g2, g3⟩ := id h8
  have hsx : ∀ p, p < 4 → st p ≤ 40 ∧ sv p ≤ st p ∧ im (8 * p + 339) 1 = nI (st p) ∧ im (8 * p + 343) 2 = nI (sv p) := fun p hq => ⟨by have := (hp p hq).2.1.2.2; omega, (hp p hq).2.2.1.2.2.1, (hp p hq).2.1.1, (hp p hq).2.2.1.1⟩
  have hsy : ∀ p, p < 4 → im 403 p = nI (st p) ∧ im 404 p = nI (sv p) ∧ sv p ≤ st p ∧ st p ≤ 40 := fun p hq => ⟨(hp p hq).2.1.2.1, (hp p hq).2.2.1.2.1, (hp p hq).2.2.1.2.2.1, by have := (hp p hq).2.1.2.2; omega⟩
  have ox : ∀ o, o < 3 → (im (3 * o + 330) 0 ≠ y ↔ im 397 o = y) := fun o ho => by rw [(g1 o ho).1.1, (g1 o ho).1.2]; exact pw_x hy
  have px : ∀ p, p < 4 → (im (8 * p + 339) 0 ≠ y ↔ im 402 p = y) := fun p hq => by rw [(hp p hq).1.1, (hp p hq).1.2]; exact pw_x hy
  have l34 := h1.2.2.2.2.1
  refine x9 (st := st) (v := sv) hM hy (fun p hq => okC_le (okC_of hM60 hC60 h6 h7 h4 h3) (hp p hq).2.1.2.2) hsx (fun o ho e hu hld => ⟨_, rfl, ?_⟩) (fun o ho e hu hld => ⟨_, rfl, ?_⟩) (fun p hq e hu hy0 => ⟨_, rfl, ?_⟩) (fun p hq e hu hy0 => ⟨_, rfl, ?_⟩) (fun k1 k2 => ⟨_, rfl, y9 (st := st) (sv := sv) hO hy hsy (fun o ho e hu => absurd ⟨ho, e, (ox o ho).mpr hu⟩ (k1 o)) (fun p hq e hu => absurd ⟨hq, e, (px p hq).mpr hu⟩ (k2 p)) (fun _ _ => ⟨rfl, hI'⟩)⟩)
  · have hu2 := (ox o ho).mp hu
    have hby : bI (!up o) = y := (g1 o ho).1.2.symm.trans hu2
    refine y9 (st := st) (sv := sv) hO hy (fun r hr => by rw [u2_ne (by omega), u2_ne (by omega)]; exact hsy r hr) (fun o' ho' e' _ => ⟨rfl, ?_⟩) (fun p' hq' e' _ => absurd (nI_inj (e'.symm.trans e) (by omega) (by omega)) (by omega)) (fun h _ => absurd ⟨ho, e, by rw [u2_ne (by omega)]; exact hu2⟩ (h o))
    have z1 := nI_inj (e'.symm.trans e) (by omega) (by omega)
    subst z1
    clear ho' e'
    have e34 : (if y = 0 ∧ en_u2 im (3 * o' + 330) 0 y 371 34 = nI o' then (-1 : Int32) else en_u2 im (3 * o' + 330) 0 y 371 34) = im 371 34 := by
      rw [u2_ne (by omega), if_neg (fun z => hld (l34.symm.trans z.2))]
    rw [e34, (pw_y hby).2]
    refine ⟨M, W, C, N, ld, cl, sz, c, mb, ?_, iCd_f (fun c x hx => by unfold xCd at hx; rw [u2_ne (by omega), u2_ne (by omega), u2_ne (by omega)]) h2, iRu_f (fun c x hx => by unfold xRu at hx; rw [u2_ne (by omega), u2_ne (by omega), u2_ne (by omega)]) h3, iTx_f (fun c x hx => by unfold xTx at hx; rw [u2_ne (by omega), u2_ne (by omega), u2_ne (by omega)]) h4, iWt_f (fun c x hx => by unfold xWt at hx; rw [u2_ne (by omega), u2_ne (by omega), u2_ne (by omega)]) h5, iBk_f hC60 (fun c x hx => by unfold xBk at hx; rw [u2_ne (by omega), u2_ne (by omega), u2_ne (by omega)]) h6, iCh_f (fun c x hx => by unfold xCh at hx; rw [u2_ne (by omega), u2_ne (by omega), u2_ne (by omega)]) h7, ?_, iPe_f (fun c x hx => by unfold xPe at hx; rw [u2_ne (by omega), u2_ne (by omega), u2_ne (by omega)]) (chS_fr hM60 hC60 h6 h7 h4 (fun c x hx => by unfold xTx at hx; rw [u2_ne (by omega), u2_ne (by omega), u2_ne (by omega)])) h9⟩
    · obtain ⟨k1, k2, k3, k4, k5, k6⟩ := h1
      refine ⟨?_, ?_, ?_, ?_, ?_, ?_⟩
      · rw [u2_ne (by omega), u2_ne (by omega), u2_ne (by omega), u2_ne (by omega), u2_ne (by omega), u2_ne (by omega)]; exact k1
      · rw [u2_ne (by omega), u2_ne (by omega), u2_ne (by omega), u2_ne (by omega), u2_ne (by omega), u2_ne (by omega)]; exact k2
      · rw [u2_ne (by omega), u2_ne (by omega), u2_ne (by omega), u2_ne (by omega), u2_ne (by omega), u2_ne (by omega)]; exact k3
      · rw [u2_ne (by omega), u2_ne (by omega), u2_ne (by omega), u2_ne (by omega), u2_ne (by omega), u2_ne (by omega)]; exact k4
      · rw [u2_eq, u2_ne (by omega), u2_ne (by omega), u2_ne (by omega)]; exact k5
      · rw [u2_ne (by omega), u2_ne (by omega), u2_ne (by omega)]; exact k6
    · refine ⟨fun q => if q = o' then !up o' else up q, tm, n, T, g, G, fun q hq => ?_, fun b hb => ?_, ag_power g3 (fun hl => ⟨rfl, ?_⟩)⟩
      · obtain ⟨q1, q2, q3, q4⟩ := g1 q hq
        refine ⟨?_, ?_, ?_, fun i hi => ?_⟩
        · by_cases z : q = o'
          · subst z
            simp only [if_true]
            refine ⟨by rw [u2_ne (by omega), u2_ne (by omega), u2_eq]; exact hby.symm, by rw [u2_ne (by omega), u2_eq, Bool.not_not]⟩
          · simp only [if_neg z]
            refine ⟨by rw [u2_ne (by omega), u2_ne (by omega), u2_ne (by omega)]; exact q1.1, by rw [u2_ne (by omega), u2_ne (by omega), u2_ne (by omega)]; exact q1.2⟩
        · rw [u2_ne (by omega), u2_ne (by omega), u2_ne (by omega), u2_ne (by omega), u2_ne (by omega), u2_ne (by omega)]; exact ⟨q2.1, q2.2.1, by omega⟩
        · rw [u2_ne (by omega), u2_ne (by omega), u2_ne (by omega), u2_ne (by omega), u2_ne (by omega), u2_ne (by omega)]; exact q3
        · rw [u2_ne (by omega), u2_ne (by omega), u2_ne (by omega), u2_ne (by omega), u2_ne (by omega), u2_ne (by omega)]; exact q4 i hi
      · rw [u2_ne (by omega), u2_ne (by omega), u2_ne (by omega), u2_ne (by omega), u2_ne (by omega), u2_ne (by omega)]; exact ⟨(g2 b hb).1, (g2 b hb).2.1, by have := (g2 b hb).2.2; omega⟩
      · have hne : ld ≠ o' := by
          rcases h1.2.2.2.2.2 with w | w
          · omega
          · intro w2; subst w2; exact hld w.1
        simp only [if_neg hne]
        exact (g3.2.1 hl).1
  · have hu2 := (ox o ho).mp hu
    have hby : bI (!up o) = y := (g1 o ho).1.2.symm.trans hu2
    have hlo : ld = o := by
      rcases h1.2.2.2.2.2 with w | w
      · rw [w.1] at hld
        exact absurd hld.symm (nI_nm (by omega))
      · exact nI_inj (w.1.symm.trans hld) (by omega) (by omega)
    have huo : up o = true := by have := (g3.2.1 (by omega)).1; rw [hlo] at this; exact this
    have hy0 : y = 0 := (pw_y hby).1.mpr huo
    refine y9 (st := st) (sv := sv) hO hy (fun r hr => by rw [u2_ne (by omega), u2_ne (by omega), u2_ne (by omega), u2_ne (by omega)]; exact hsy r hr) (fun o' ho' e' _ => ⟨rfl, ?_⟩) (fun p' hq' e' _ => absurd (nI_inj (e'.symm.trans e) (by omega) (by omega)) (by omega)) (fun h _ => absurd ⟨ho, e, by rw [u2_ne (by omega), u2_ne (by omega)]; exact hu2⟩ (h o))
    have z1 := nI_inj (e'.symm.trans e) (by omega) (by omega)
    subst z1
    clear ho' e'
    have e34 : (if y = 0 ∧ en_u2 (en_u2 im (3 * o' + 330) 0 y) 1 8 (-1) 371 34 = nI o' then (-1 : Int32) else en_u2 (en_u2 im (3 * o' + 330) 0 y) 1 8 (-1) 371 34) = -1 := if_pos ⟨hy0, by rw [u2_ne (by omega), u2_ne (by omega)]; exact l34.trans hld⟩
    rw [e34, (pw_y hby).2]
    refine ⟨M, W, C, N, 3, cl, sz, c, mb, ?_, iCd_f (fun c x hx => by unfold xCd at hx; rw [u2_ne (by omega), u2_ne (by omega), u2_ne (by omega), u2_ne (by omega)]) h2, iRu_f (fun c x hx => by unfold xRu at hx; rw [u2_ne (by omega), u2_ne (by omega), u2_ne (by omega), u2_ne (by omega)]) h3, iTx_f (fun c x hx => by unfold xTx at hx; rw [u2_ne (by omega), u2_ne (by omega), u2_ne (by omega), u2_ne (by omega)]) h4, iWt_f (fun c x hx => by unfold xWt at hx; rw [u2_ne (by omega), u2_ne (by omega), u2_ne (by omega), u2_ne (by omega)]) h5, iBk_f hC60 (fun c x hx => by unfold xBk at hx; rw [u2_ne (by omega), u2_ne (by omega), u2_ne (by omega), u2_ne (by omega)]) h6, iCh_f (fun c x hx => by unfold xCh at hx; rw [u2_ne (by omega), u2_ne (by omega), u2_ne (by omega), u2_ne (by omega)]) h7, ?_, iPe_f (fun c x hx => by unfold xPe at hx; rw [u2_ne (by omega), u2_ne (by omega), u2_ne (by omega), u2_ne (by omega)]) (chS_fr hM60 hC60 h6 h7 h4 (fun c x hx => by unfold xTx at hx; rw [u2_ne (by omega), u2_ne (by omega), u2_ne (by omega), u2_ne (by omega)])) h9⟩
    · obtain ⟨k1, k2, k3, k4, k5, k6⟩ := h1
      refine ⟨?_, ?_, ?_, ?_, ?_, Or.inl ⟨by rw [u2_ne (by omega), u2_ne (by omega), u2_eq], rfl⟩⟩
      · rw [u2_ne (by omega), u2_ne (by omega), u2_ne (by omega), u2_ne (by omega), u2_ne (by omega), u2_ne (by omega), u2_ne (by omega), u2_ne (by omega)]; exact k1
      · rw [u2_ne (by omega), u2_ne (by omega), u2_ne (by omega), u2_ne (by omega), u2_ne (by omega), u2_ne (by omega), u2_ne (by omega), u2_ne (by omega)]; exact k2
      · rw [u2_ne (by omega), u2_ne (by omega), u2_ne (by omega), u2_ne (by omega), u2_ne (by omega), u2_ne (by omega), u2_ne (by omega), u2_ne (by omega)]; exact k3
      · rw [u2_ne (by omega), u2_ne (by omega), u2_ne (by omega), u2_ne (by omega), u2_ne (by omega), u2_ne (by omega), u2_ne (by omega), u2_ne (by omega)]; exact k4
      · rw [u2_eq, u2_ne (by omega), u2_ne (by omega), u2_eq]
    · refine ⟨fun q => if q = o' then !up o' else up q, tm, n, T, g, G, fun q hq => ?_, fun b hb => ?_, ag_power g3 (fun hl => absurd hl (by omega))⟩
      · obtain ⟨q1, q2, q3, q4⟩ := g1 q hq
        refine ⟨?_, ?_, ?_, fun i hi => ?_⟩
        · by_cases z : q = o'
          · subst z
            simp only [if_true]
            refine ⟨by rw [u2_ne (by omega), u2_ne (by omega), u2_ne (by omega), u2_eq]; exact hby.symm, by rw [u2_ne (by omega), u2_eq, Bool.not_not]⟩
          · simp only [if_neg z]
            refine ⟨by rw [u2_ne (by omega), u2_ne (by omega), u2_ne (by omega), u2_ne (by omega)]; exact q1.1, by rw [u2_ne (by omega), u2_ne (by omega), u2_ne (by omega), u2_ne (by omega)]; exact q1.2⟩
        · rw [u2_ne (by omega), u2_ne (by omega), u2_ne (by omega), u2_ne (by omega), u2_ne (by omega), u2_ne (by omega), u2_ne (by omega), u2_ne (by omega)]; exact ⟨q2.1, q2.2.1, by omega⟩
        · rw [u2_ne (by omega), u2_ne (by omega), u2_ne (by omega), u2_ne (by omega), u2_ne (by omega), u2_ne (by omega), u2_ne (by omega), u2_ne (by omega)]; exact q3
        · rw [u2_ne (by omega), u2_ne (by omega), u2_ne (by omega), u2_ne (by omega), u2_ne (by omega), u2_ne (by omega), u2_ne (by omega), u2_ne (by omega)]; exact q4 i hi
      · rw [u2_ne (by omega), u2_ne (by omega), u2_ne (by omega), u2_ne (by omega), u2_ne (by omega), u2_ne (by omega), u2_ne (by omega), u2_ne (by omega)]; exact ⟨(g2 b hb).1, (g2 b hb).2.1, by have := (g2 b hb).2.2; omega⟩
  · have hu2 := (px p hq).mp hu
    have hby : bI (!pu p) = y := (hp p hq).1.2.symm.trans hu2
    refine y9 (st := st) (sv := sv) hO hy (fun r hr => by rw [u2_ne (by omega), u2_ne (by omega)]; exact hsy r hr) (fun o' ho' e' _ => absurd (nI_inj (e'.symm.trans e) (by omega) (by omega)) (by omega)) (fun p' hq' e' _ => ⟨by rw [if_pos hy0]; rfl, ?_⟩) (fun _ h => absurd ⟨hq, e, by rw [u2_ne (by omega)]; exact hu2⟩ (h p))
    have z1 := nI_inj (e'.symm.trans e) (by omega) (by omega)
    have z1 : p' = p := by omega
    subst z1
    clear hq' e'
    have hu' := (pw_y hby).1.mp hy0
    rw [if_pos hy0, if_pos hy0]
    refine ⟨M, W, C, N, ld, cl, sz, c, mb, iCt_f (fun c x hx => by unfold xCt at hx; rw [u2_ne (by omega), u2_ne (by omega), u2_ne (by omega)]) h1, iCd_f (fun c x hx => by unfold xCd at hx; rw [u2_ne (by omega), u2_ne (by omega), u2_ne (by omega)]) h2, iRu_f (fun c x hx => by unfold xRu at hx; rw [u2_ne (by omega), u2_ne (by omega), u2_ne (by omega)]) h3, iTx_f (fun c x hx => by unfold xTx at hx; rw [u2_ne (by omega), u2_ne (by omega), u2_ne (by omega)]) h4, iWt_f (fun c x hx => by unfold xWt at hx; rw [u2_ne (by omega), u2_ne (by omega), u2_ne (by omega)]) h5, iBk_f hC60 (fun c x hx => by unfold xBk at hx; rw [u2_ne (by omega), u2_ne (by omega), u2_ne (by omega)]) h6, iCh_f (fun c x hx => by unfold xCh at hx; rw [u2_ne (by omega), u2_ne (by omega), u2_ne (by omega)]) h7, iOr_f hC60 (fun c x hx => by unfold xOr at hx; rw [u2_ne (by omega), u2_ne (by omega), u2_ne (by omega)]) (iOr_k h8), ?_⟩
    have hS : chS im (en_u2 (en_u2 (en_u2 im (8 * p' + 339) 0 y) 402 p' 1) 404 p' (nI (sv p'))) N := chS_fr hM60 hC60 h6 h7 h4 (fun c x hx => by unfold xTx at hx; rw [u2_ne (by omega), u2_ne (by omega), u2_ne (by omega)])
    refine iPe_1 (p := p') (u := false) (s := st p') (v := sv p') hS hp (fun q hq2 hne => ⟨fun b x hb => by rw [u2_ne (by omega), u2_ne (by omega), u2_ne (by omega)], by rw [u2_ne (by omega), u2_ne (by omega), u2_ne (by omega)], by rw [u2_ne (by omega), u2_ne (by omega), u2_ne (by omega)], by rw [u2_ne (by omega), u2_ne (by omega), u2_ne (by omega)]⟩) ?_
    obtain ⟨a1, a2, a3, a4, a5, a6, a7⟩ := hp p' hq
    refine ⟨⟨by rw [u2_ne (by omega), u2_ne (by omega), u2_eq, hy0]; rfl, by rw [u2_ne (by omega), u2_eq]; rfl⟩, ⟨by rw [u2_ne (by omega), u2_ne (by omega), u2_ne (by omega)]; exact a2.1, by rw [u2_ne (by omega), u2_ne (by omega), u2_ne (by omega)]; exact a2.2.1, a2.2.2⟩, ⟨by rw [u2_ne (by omega), u2_ne (by omega), u2_ne (by omega)]; exact a3.1, by rw [u2_eq], a3.2.2.1, a3.2.2.2.1, fun h => absurd h (by decide)⟩, ⟨by rw [u2_ne (by omega), u2_ne (by omega), u2_ne (by omega)]; exact a4.1, fun h => absurd h (by decide)⟩, fun k hk => ?_, fun h => absurd h (by decide), fun b hb j hj => ?_⟩
    · rw [FS_v hS (by omega), u2_ne (by omega), u2_ne (by omega), u2_ne (by omega), u2_ne (by omega), u2_ne (by omega), u2_ne (by omega)]; exact a5 k hk
    · have hb' : b < sv p' := hb
      rw [FS_v hS (by omega), u2_ne (by omega), u2_ne (by omega), u2_ne (by omega)]
      exact a7 b (by rw [if_pos hu']; omega) j hj
  · have hu2 := (px p hq).mp hu
    have hby : bI (!pu p) = y := (hp p hq).1.2.symm.trans hu2
    have hy1 : y = 1 := by rcases hy with w | w; exact absurd w hy0; exact w
    have F0 : ∀ c x, (c < 8 * p + 339 ∨ 8 * p + 347 ≤ c) → cbN p (sv p) (en_u2 im (8 * p + 339) 0 y) (st p - sv p) c x = im c x := fun c x hx => by rw [cbN_lt (by omega), u2_ne (by omega)]
    obtain ⟨a1, a2, a3, a4, a5, a6, a7⟩ := hp p hq
    have hPS := PS_cb (p := p) (q := en_u2 im (8 * p + 339) 0 y) hM60 hC60 h6 h7 h4 h3 (v := sv p) (fun c hc => en_u2_off (by omega)) a3.2.2.2.1 (by rw [u2_ne (by omega)]; exact a3.1) (fun k hk => by rw [u2_ne (by omega), u2_ne (by omega)]; exact a5 k hk) (fun b hb j hj => by rw [u2_ne (by omega)]; exact a7 b (by split <;> omega) j hj) (st p - sv p) (by omega)
    rw [show sv p + (st p - sv p) = st p by omega] at hPS
    obtain ⟨P1, ⟨P2, P3⟩, P4⟩ := hPS
    have P6 : cbN p (sv p) (en_u2 im (8 * p + 339) 0 y) (st p - sv p) (8 * p + 340) 2 = nI (st p) := by
      rw [cbN_h (by rw [u2_ne (by omega)]; exact a3.1), show sv p + (st p - sv p) = st p by omega]
    have P7 : cbN p (sv p) (en_u2 im (8 * p + 339) 0 y) (st p - sv p) (8 * p + 339) 0 = y := by rw [cbN_lt (by omega), u2_eq]
    have P8 : cbN p (sv p) (en_u2 im (8 * p + 339) 0 y) (st p - sv p) (8 * p + 339) 1 = nI (st p) := by rw [cbN_lt (by omega), u2_ne (by omega)]; exact a2.1
    generalize cbN p (sv p) (en_u2 im (8 * p + 339) 0 y) (st p - sv p) = m1 at *
    refine y9 (st := st) (sv := sv) hO hy (fun r hr => by rw [F0 _ _ (by omega), F0 _ _ (by omega)]; exact hsy r hr) (fun o' ho' e' _ => absurd (nI_inj (e'.symm.trans e) (by omega) (by omega)) (by omega)) (fun p' hq' e' _ => ?_) (fun _ h => absurd ⟨hq, e, by rw [F0 _ _ (by omega)]; exact hu2⟩ (h p))
    have z1 := nI_inj (e'.symm.trans e) (by omega) (by omega)
    have z1 : p' = p := by omega
    subst z1
    clear hq' e'
    rw [if_neg hy0, if_neg hy0, if_neg hy0]
    refine ⟨rfl, ?_⟩
    have F1 : ∀ c x, (c < 8 * p' + 339 ∨ 8 * p' + 347 ≤ c) → (c ≠ 402 ∨ x ≠ p') → (c ≠ 404 ∨ x ≠ p') → en_u2 (en_u2 m1 402 p' 0) 404 p' (nI (st p' / 4 * 4)) c x = im c x := fun c x hx h1 h2 => by rw [u2_ne h2, u2_ne h1]; exact F0 c x hx
    have hS : chS im (en_u2 (en_u2 m1 402 p' 0) 404 p' (nI (st p' / 4 * 4))) N := chS_fr hM60 hC60 h6 h7 h4 (fun c x hx => by unfold xTx at hx; exact F1 c x (by omega) (by omega) (by omega))
    refine ⟨M, W, C, N, ld, cl, sz, c, mb, iCt_f (fun c x hx => by unfold xCt at hx; exact F1 c x (by omega) (by omega) (by omega)) h1, iCd_f (fun c x hx => by unfold xCd at hx; exact F1 c x (by omega) (by omega) (by omega)) h2, iRu_f (fun c x hx => by unfold xRu at hx; exact F1 c x (by omega) (by omega) (by omega)) h3, iTx_f (fun c x hx => by unfold xTx at hx; exact F1 c x (by omega) (by omega) (by omega)) h4, iWt_f (fun c x hx => by unfold xWt at hx; exact F1 c x (by omega) (by omega) (by omega)) h5, iBk_f hC60 (fun c x hx => by unfold xBk at hx; exact F1 c x (by omega) (by omega) (by omega)) h6, iCh_f (fun c x hx => by unfold xCh at hx; exact F1 c x (by omega) (by omega) (by omega)) h7, iOr_f hC60 (fun c x hx => by unfold xOr at hx; exact F1 c x (by omega) (by omega) (by omega)) (iOr_k h8), ?_⟩
    refine iPe_1 (p := p') (u := true) (s := st p') (v := st p' / 4 * 4) hS hp (fun q hq2 hne => ⟨fun b x hb => F1 b x (by omega) (by omega) (by omega), F1 _ _ (by omega) (by omega) (by omega), F1 _ _ (by omega) (by omega) (by omega), F1 _ _ (by omega) (by omega) (by omega)⟩) ?_
    refine ⟨⟨by rw [u2_ne (by omega), u2_ne (by omega), P7, hy1]; rfl, by rw [u2_ne (by omega), u2_eq]; rfl⟩, ⟨by rw [u2_ne (by omega), u2_ne (by omega)]; exact P8, by rw [u2_ne (by omega), u2_ne (by omega), F0 _ _ (by omega)]; exact a2.2.1, a2.2.2⟩, ⟨by rw [u2_ne (by omega), u2_ne (by omega)]; exact P2, by rw [u2_eq], by omega, by omega, fun _ => rfl⟩, ⟨by rw [u2_ne (by omega), u2_ne (by omega), P6]; exact isN_of (by omega) (by omega), fun _ => by rw [u2_ne (by omega), u2_ne (by omega)]; exact P6⟩, fun k hk => ?_, fun _ k hk => ?_, fun b hb j hj => ?_⟩
    · rw [FS_v hS (by omega), u2_ne (by omega), u2_ne (by omega), u2_ne (by omega), u2_ne (by omega)]; exact P3 k hk
    · rw [FS_v hS (by omega), u2_ne (by omega), u2_ne (by omega), u2_ne (by omega), u2_ne (by omega)]; exact P1 k hk
    · rw [if_pos rfl] at hb
      rw [FS_v hS (by omega), u2_ne (by omega), u2_ne (by omega)]; exact P4 b hb j hj
end PAIRD
