/-! part 3: a group stands as long as its cells do *-/
def xCt (c x : Nat) : Prop := (c = 1 ∧ (x = 2 ∨ x = 4 ∨ x = 6 ∨ x = 8)) ∨ (c = 7 ∧ x = 1) ∨ (c = 371 ∧ (x = 9 ∨ x = 25 ∨ x = 26 ∨ x = 34 ∨ x = 36))
theorem iCt_f {im m : Nat → Nat → Int32} {M W C N ld : Nat} (h : ∀ c x, xCt c x → m c x = im c x) (hi : iCt im M W C N ld) : iCt m M W C N ld := by
  unfold iCt at hi ⊢
  rw [h 1 2 (by unfold xCt; omega), h 1 4 (by unfold xCt; omega), h 1 6 (by unfold xCt; omega), h 1 8 (by unfold xCt; omega), h 7 1 (by unfold xCt; omega), h 371 9 (by unfold xCt; omega), h 371 25 (by unfold xCt; omega), h 371 26 (by unfold xCt; omega), h 371 34 (by unfold xCt; omega), h 371 36 (by unfold xCt; omega)]
  exact hi
def xCd (c x : Nat) : Prop := (14 ≤ c ∧ c < 30 ∧ (c % 4 = 3 ∨ c % 4 = 0 ∨ (c % 4 = 2 ∧ x = 2))) ∨ (372 ≤ c ∧ c ≤ 374)
theorem iCd_f {im m : Nat → Nat → Int32} (h : ∀ c x, xCd c x → m c x = im c x) (hi : iCd im) : iCd m := by
  obtain ⟨ln, op, od, hi⟩ := hi
  refine ⟨ln, op, od, fun p hp => ?_⟩
  obtain ⟨h1, h2⟩ := hi p hp
  refine ⟨?_, fun i hi => ?_⟩
  · rw [h (4 * p + 14) 2 (by unfold xCd; omega), h 372 p (by unfold xCd; omega)]; exact h1
  · rw [h (4 * p + 15) i (by unfold xCd; omega), h (4 * p + 16) i (by unfold xCd; omega), h 373 _ (by unfold xCd; omega), h 374 _ (by unfold xCd; omega)]; exact h2 i hi
def xRu (c x : Nat) : Prop := (14 ≤ c ∧ c < 30 ∧ (c % 4 = 1 ∨ (c % 4 = 2 ∧ (x = 4 ∨ x = 5)))) ∨ (375 ≤ c ∧ c ≤ 380)
theorem ruS_f {im m : Nat → Nat → Int32} (h : ∀ c x, xRu c x → m c x = im c x) : ruS im m := fun c h1 h2 => by funext x; exact h c x (by unfold xRu; omega)
theorem rV_r {im m : Nat → Nat → Int32} (h : ruS im m) (p : Nat) : rR m p = rR im p ∧ rH m p = rH im p ∧ rX m p = rX im p ∧ rV m p = rV im p ∧ (okR im p → okR m p) := by
  have e1 : rR m p = rR im p := by unfold rR; rw [h 375 (by decide) (by decide)]
  have e2 : rH m p = rH im p := by unfold rH; rw [h 380 (by decide) (by decide)]
  have e3 : rK m p = rK im p := by funext i; unfold rK; rw [h 376 (by decide) (by decide)]
  have e4 : rN m p = rN im p := by funext i; unfold rN; rw [h 377 (by decide) (by decide)]
  have e5 : rP m p = rP im p := by funext i q; unfold rP; rw [h 378 (by decide) (by decide)]
  have e6 : rT m p = rT im p := by unfold rT; rw [e2, h 379 (by decide) (by decide)]
  refine ⟨e1, e2, ?_, ?_, fun hR => ?_⟩
  · funext i; unfold rX; rw [h 379 (by decide) (by decide)]
  · funext e i; unfold rV; rw [e1, e3, e4, e5]
  · unfold okR
    rw [e1, e2, e4, e5, e6, h 375 (by decide) (by decide), h 380 (by decide) (by decide), h 377 (by decide) (by decide), h 378 (by decide) (by decide), h 379 (by decide) (by decide)]
    exact hR
theorem iRu_f {im m : Nat → Nat → Int32} (h : ∀ c x, xRu c x → m c x = im c x) (hi : iRu im) : iRu m := by
  intro p hp
  obtain ⟨h1, h2, h3, h4, h5⟩ := hi p hp
  have hr := ruS_f h
  obtain ⟨e1, e2, e3, e4, e5⟩ := rV_r hr p
  rw [e1, e2, e3, e4, h (4 * p + 14) 4 (by unfold xRu; omega), h (4 * p + 14) 5 (by unfold xRu; omega)]
  refine ⟨e5 h1, h2, h3, h4, fun k hk => ?_⟩
  rw [h (4 * p + 17) k (by unfold xRu; omega), hr 379 (by decide) (by decide)]
  exact h5 k hk
def tE (im m : Nat → Nat → Int32) (t : Nat) : Prop := m 388 t = im 388 t ∧ (∀ k, k < 16 → m 385 (16 * t + k) = im 385 (16 * t + k) ∧ m 386 (16 * t + k) = im 386 (16 * t + k) ∧ m 387 (16 * t + k) = im 387 (16 * t + k)) ∧ ∀ j, j < 2 → m 389 (2 * t + j) = im 389 (2 * t + j) ∧ m 390 (2 * t + j) = im 390 (2 * t + j) ∧ ∀ k, k < 16 → m 391 (16 * (2 * t + j) + k) = im 391 (16 * (2 * t + j) + k)
theorem resR_c {im m : Nat → Nat → Int32} {t : Nat} {c : Nat → Int32} {r : Nat} (h : tE im m t) (hr : resR im t c r) : resR m t c r := by
  obtain ⟨a1, a2, a3, a4, a5⟩ := hr
  obtain ⟨h1, h2, h3⟩ := h
  refine ⟨h1.trans a1, a2, a3, fun k hk => ?_, fun j hj => ⟨fun w => ?_, (a5 j hj).2⟩⟩
  · rw [(h2 k hk).1, (h2 k hk).2.1, (h2 k hk).2.2]; exact a4 k hk
  · obtain ⟨lo, hi, e1, e2, e3, e4, e5, e6⟩ := (a5 j hj).1 w
    obtain ⟨g1, g2, g3⟩ := h3 j hj
    refine ⟨lo, hi, g1.trans e1, g2.trans e2, e3, e4, e5, fun k hk => ?_⟩
    have := g3 k hk
    simp only [this]
    exact e6 k hk
def xTx (c x : Nat) : Prop := (30 ≤ c ∧ c < 210) ∨ (381 ≤ c ∧ c ≤ 384 ∧ x < 60) ∨ (385 ≤ c ∧ c ≤ 387 ∧ x < 960) ∨ (c = 388 ∧ x < 60) ∨ (389 ≤ c ∧ c ≤ 390 ∧ x < 120) ∨ (c = 391 ∧ x < 1920)
theorem tE_f {im m : Nat → Nat → Int32} {t : Nat} (ht : t < 60) (h : ∀ c x, 385 ≤ c → c ≤ 391 → xTx c x → m c x = im c x) : tE im m t := by
  refine ⟨h _ _ (by decide) (by decide) (by unfold xTx; omega), fun k hk => ⟨h _ _ (by decide) (by decide) (by unfold xTx; omega), h _ _ (by decide) (by decide) (by unfold xTx; omega), h _ _ (by decide) (by decide) (by unfold xTx; omega)⟩, fun j hj => ⟨h _ _ (by decide) (by decide) (by unfold xTx; omega), h _ _ (by decide) (by decide) (by unfold xTx; omega), fun k hk => h _ _ (by decide) (by decide) (by unfold xTx; omega)⟩⟩
theorem iT1_f {im m : Nat → Nat → Int32} {M t : Nat} {cl : Nat → Bool} (h0 : ∀ c x, (c = 3 * t + 30 ∨ c = 3 * t + 31 ∨ c = 3 * t + 32) → m c x = im c x) (h1 : m 381 t = im 381 t ∧ m 382 t = im 382 t ∧ m 383 t = im 383 t ∧ m 384 t = im 384 t) (h2 : tE im m t) (hi : iT1 im M cl t) : iT1 m M cl t := by
  have e : m (3 * t + 32) = im (3 * t + 32) := by funext x; exact h0 _ x (by omega)
  unfold iT1 at hi ⊢
  rw [h0 (3 * t + 30) 0 (by omega), h0 (3 * t + 30) 1 (by omega), h0 (3 * t + 30) 2 (by omega), h0 (3 * t + 30) 3 (by omega), h0 (3 * t + 31) 1 (by omega), e, h1.1, h1.2.1, h1.2.2.1, h1.2.2.2, h2.1]
  obtain ⟨a1, a2, a3, a4, a5, a6, a7⟩ := hi
  refine ⟨a1, a2, a3, a4, a5, a6, fun z => ?_⟩
  obtain ⟨r, r1, r2⟩ := a7 z
  exact ⟨r, r1, resR_c h2 r2⟩
theorem iTx_f {im m : Nat → Nat → Int32} {M : Nat} {cl : Nat → Bool} (h : ∀ c x, xTx c x → m c x = im c x) (hi : iTx im M cl) : iTx m M cl := fun t ht => iT1_f (fun c x hc => h c x (by unfold xTx; omega)) ⟨h _ _ (by unfold xTx; omega), h _ _ (by unfold xTx; omega), h _ _ (by unfold xTx; omega), h _ _ (by unfold xTx; omega)⟩ (tE_f ht (fun c x _ _ hx => h c x hx)) (hi t ht)
def xWt (c : Nat) : Prop := c = 4 ∨ c = 393
theorem iWt_f {im m : Nat → Nat → Int32} {M W : Nat} {cl : Nat → Bool} (h : ∀ c x, xWt c → m c x = im c x) (hi : iWt im M W cl) : iWt m M W cl := by
  intro i hi2
  rw [h 4 i (Or.inl rfl), h 393 i (Or.inr rfl)]
  exact hi i hi2
def xBk (c x : Nat) : Prop := (210 ≤ c ∧ c < 330 ∧ (c % 2 = 1 ∨ x = 1)) ∨ c = 394 ∨ c = 395
theorem iBk_f {im m : Nat → Nat → Int32} {M C : Nat} {cl : Nat → Bool} {sz : Nat → Nat} {mb : Nat → Nat → Nat} (hC : C ≤ 60) (h : ∀ c x, xBk c x → m c x = im c x) (hi : iBk im M C cl sz mb) : iBk m M C cl sz mb := by
  intro b hb
  obtain ⟨h1, h2⟩ := hi b hb
  refine ⟨by rw [h (2 * b + 210) 1 (by unfold xBk; omega), h 395 b (by unfold xBk; omega)]; exact h1, fun i hi => ?_⟩
  rw [h (2 * b + 211) i (by unfold xBk; omega), h 394 _ (by unfold xBk; omega)]
  exact h2 i hi
def xCh (c : Nat) : Prop := c = 8 ∨ c = 401
theorem iCh_f {im m : Nat → Nat → Int32} {C N : Nat} {c : Nat → Nat} (h : ∀ c x, xCh c → m c x = im c x) (hi : iCh im C N c) : iCh m C N c := by
  intro i hi2
  rw [h 8 i (Or.inl rfl), h 401 i (Or.inr rfl)]
  exact hi i hi2
def xOr (c x : Nat) : Prop := (210 ≤ c ∧ c < 330 ∧ c % 2 = 0 ∧ x = 2) ∨ (330 ≤ c ∧ c < 339) ∨ (396 ≤ c ∧ c ≤ 400)
theorem iOr_f {K : Nat} {im m : Nat → Nat → Int32} {C N ld : Nat} {c : Nat → Nat} (hC : C ≤ 60) (h : ∀ c x, xOr c x → m c x = im c x) (hi : iOr K im C N ld c) : iOr K m C N ld c := by
  obtain ⟨up, tm, n, T, g, G, h1, h2, h3⟩ := hi
  refine ⟨up, tm, n, T, g, G, fun o ho => ?_, fun b hb => ?_, h3⟩
  · obtain ⟨a1, a2, a3, a4⟩ := h1 o ho
    rw [h (3 * o + 330) 0 (by unfold xOr; omega), h (3 * o + 330) 1 (by unfold xOr; omega), h (3 * o + 331) 1 (by unfold xOr; omega), h 397 o (by unfold xOr; omega), h 398 o (by unfold xOr; omega), h 400 o (by unfold xOr; omega)]
    refine ⟨a1, a2, a3, fun i hi => ?_⟩
    rw [h (3 * o + 332) i (by unfold xOr; omega), h 399 _ (by unfold xOr; omega)]
    exact a4 i hi
  · rw [h (2 * b + 210) 2 (by unfold xOr; omega), h 396 b (by unfold xOr; omega)]
    exact h2 b hb
theorem iOr_k {K : Nat} {im : Nat → Nat → Int32} {C N ld : Nat} {c : Nat → Nat} (hi : iOr K im C N ld c) : iOr (K + 1) im C N ld c := by
  obtain ⟨up, tm, n, T, g, G, h1, h2, h3⟩ := hi
  refine ⟨up, tm, n, T, g, G, fun o ho => ?_, fun b hb => ?_, h3⟩
  · obtain ⟨a1, a2, a3, a4⟩ := h1 o ho
    exact ⟨a1, ⟨a2.1, a2.2.1, by omega⟩, a3, a4⟩
  · obtain ⟨a1, a2, a3⟩ := h2 b hb
    exact ⟨a1, a2, by omega⟩
def xPe (c : Nat) : Prop := (339 ≤ c ∧ c < 371) ∨ (402 ≤ c ∧ c ≤ 404)
theorem iP1_f {im m : Nat → Nat → Int32} {N p st sv : Nat} {sz c : Nat → Nat} {pu : Bool} (hp : p < 4) (h : ∀ b x, (8 * p + 339 ≤ b ∧ b < 8 * p + 347) → m b x = im b x) (h2 : m 402 p = im 402 p ∧ m 403 p = im 403 p ∧ m 404 p = im 404 p) (hS : chS im m N) (hi : iP1 im N sz c p pu st sv) : iP1 m N sz c p pu st sv := by
  obtain ⟨a1, a2, a3, a4, a5, a6, a7⟩ := hi
  unfold iP1
  rw [h (8 * p + 339) 0 (by omega), h (8 * p + 339) 1 (by omega), h (8 * p + 343) 2 (by omega), h (8 * p + 340) 2 (by omega), h2.1, h2.2.1, h2.2.2, FS_c (chS_le hS (show sv ≤ N by omega)), FS_c (chS_le hS (show st ≤ N by omega))]
  refine ⟨a1, a2, a3, a4, fun k hk => ?_, fun z k hk => ?_, fun b hb j hj => ?_⟩
  · rw [h (8 * p + 344) k (by omega), h (8 * p + 345) k (by omega)]; exact a5 k hk
  · rw [h (8 * p + 341) k (by omega), h (8 * p + 342) k (by omega)]; exact a6 z k hk
  · have hbN : b + 1 ≤ N := by split at hb <;> omega
    rw [h (8 * p + 346) _ (by omega), FS_c (chS_le hS hbN)]
    exact a7 b hb j hj
theorem iPe_f {im m : Nat → Nat → Int32} {N : Nat} {sz c : Nat → Nat} (h : ∀ b x, xPe b → m b x = im b x) (hS : chS im m N) (hi : iPe im N sz c) : iPe m N sz c := by
  obtain ⟨pu, st, sv, hi⟩ := hi
  exact ⟨pu, st, sv, fun p hp => iP1_f hp (fun b x hb => h b x (by unfold xPe; omega)) ⟨h 402 p (by unfold xPe; omega), h 403 p (by unfold xPe; omega), h 404 p (by unfold xPe; omega)⟩ hS (hi p hp)⟩
/-! part 4: what the contracts ask of the chain *-/
theorem ch_v {im : Nat → Nat → Int32} {C N : Nat} {c : Nat → Nat} (hC : C ≤ 60) (h : iCh im C N c) {b : Nat} (hb : b < N) : tn (im 401 b) = c b ∧ chv im b = c b := by
  obtain ⟨h1, h2, h3⟩ := h b hb
  unfold chv
  rw [h1, h2, tn_nI (by omega)]
  exact ⟨rfl, rfl⟩
theorem bk_v {im : Nat → Nat → Int32} {M C : Nat} {cl : Nat → Bool} {sz : Nat → Nat} {mb : Nat → Nat → Nat} (hM : M ≤ 60) (h : iBk im M C cl sz mb) {b : Nat} (hb : b < C) : tn (im 395 b) = sz b ∧ szv im b = sz b ∧ ∀ i, i < sz b → tn (im 394 (4 * b + i)) = mb b i ∧ mbv im b i = mb b i := by
  obtain ⟨⟨h1, h2, h3, h4⟩, h5⟩ := h b hb
  unfold szv mbv
  rw [h1, h2, tn_nI (by omega)]
  refine ⟨rfl, rfl, fun i hi => ?_⟩
  obtain ⟨g1, g2, g3, -⟩ := h5 i hi
  rw [g1, g2, tn_nI (by omega)]
  exact ⟨rfl, rfl⟩
theorem gT_v {im : Nat → Nat → Int32} {M C N : Nat} {cl : Nat → Bool} {sz c : Nat → Nat} {mb : Nat → Nat → Nat} (hM : M ≤ 60) (hC : C ≤ 60) (hB : iBk im M C cl sz mb) (hc : iCh im C N c) {b i : Nat} (hb : b < N) (hi : i < sz (c b)) : gT im b i = mb (c b) i := by
  unfold gT
  rw [(ch_v hC hc hb).1]
  exact ((bk_v hM hB (hc b hb).2.2).2.2 i hi).1
theorem tx_r {im : Nat → Nat → Int32} {M t : Nat} {cl : Nat → Bool} (h : iT1 im M cl t) : im 388 t = nI (tn (im 388 t)) ∧ tn (im 388 t) ≤ 2 := by
  obtain ⟨-, -, -, -, -, h5, h6⟩ := h
  by_cases z : im (3 * t + 30) 2 = 0
  · rw [(h5 z).1]; exact ⟨rfl, by decide⟩
  · obtain ⟨r, -, r2⟩ := h6 z
    rw [r2.1, tn_nI (by have := r2.2.1; omega)]
    exact ⟨rfl, r2.2.1⟩
theorem chS_of {im m : Nat → Nat → Int32} {M C N : Nat} {cl : Nat → Bool} {sz c : Nat → Nat} {mb : Nat → Nat → Nat} (hM : M ≤ 60) (hC : C ≤ 60) (hB : iBk im M C cl sz mb) (hc : iCh im C N c) (hT : iTx im M cl) (h1 : 0 < N → ruS im m) (h2 : ∀ b, b < N → m 401 b = im 401 b) (h3 : ∀ b, b < C → m 395 b = im 395 b ∧ ∀ i, i < 4 → m 394 (4 * b + i) = im 394 (4 * b + i)) (h4 : ∀ t, t < M → cl t = true → m 381 t = im 381 t ∧ m 383 t = im 383 t ∧ tE im m t) : chS im m N := by
  intro b hb
  have hcb := (hc b hb).2.2
  obtain ⟨e1, -⟩ := ch_v hC hc hb
  obtain ⟨f1, -, f3⟩ := bk_v hM hB hcb
  have hs := (hB (c b) hcb).1.2.2.2
  refine ⟨h1 (by omega), h2 b hb, by rw [e1]; exact (h3 _ hcb).1, fun i hi => ?_⟩
  rw [e1, f1] at hi
  rw [e1, gT_v hM hC hB hc hb hi]
  obtain ⟨-, -, g3, g4⟩ := (hB (c b) hcb).2 i hi
  obtain ⟨k1, k2, k3, k4, k5⟩ := h4 _ g3 g4
  have hr := tx_r (hT _ (show mb (c b) i < 60 by omega))
  exact ⟨(h3 _ hcb).2 i (by omega), k1, k2, k3, k4, fun j hj => k5 j (by omega)⟩
theorem okG_of {im : Nat → Nat → Int32} {M C N : Nat} {cl : Nat → Bool} {sz c : Nat → Nat} {mb : Nat → Nat → Nat} (hM : M ≤ 60) (hC : C ≤ 60) (hB : iBk im M C cl sz mb) (hc : iCh im C N c) (hT : iTx im M cl) (hR : iRu im) : okG im N := by
  intro b hb
  have hcb := (hc b hb).2.2
  obtain ⟨e1, -⟩ := ch_v hC hc hb
  obtain ⟨f1, -, f3⟩ := bk_v hM hB hcb
  have hs := (hB (c b) hcb).1
  rw [e1]
  refine ⟨⟨by rw [e1]; exact (hc b hb).2.1, by rw [e1]; omega⟩, ⟨by rw [f1]; exact hs.2.1, by rw [f1]; omega⟩, fun i hi => ?_⟩
  rw [f1] at hi
  rw [gT_v hM hC hB hc hb hi]
  obtain ⟨-, g2, g3, -⟩ := (hB (c b) hcb).2 i hi
  have ht : mb (c b) i < 60 := by omega
  obtain ⟨⟨n1, n2⟩, n3, -⟩ := (hT _ ht).1 g3
  have hr := tx_r (hT _ ht)
  refine ⟨g2, ht, by rw [n3]; exact n1, by rw [n3]; exact n2, by rw [n3]; exact (hR _ n2).1, hr.1, hr.2⟩
theorem okC_of {im : Nat → Nat → Int32} {M C N : Nat} {cl : Nat → Bool} {sz c : Nat → Nat} {mb : Nat → Nat → Nat} (hM : M ≤ 60) (hC : C ≤ 60) (hB : iBk im M C cl sz mb) (hc : iCh im C N c) (hT : iTx im M cl) (hR : iRu im) : okC im N := by
  intro b hb
  have hcb := (hc b hb).2.2
  obtain ⟨e0, e1⟩ := ch_v hC hc hb
  obtain ⟨-, f1, f3⟩ := bk_v hM hB hcb
  have hs := (hB (c b) hcb).1
  rw [e1]
  refine ⟨⟨by unfold chv at e1; rw [e1]; exact (hc b hb).1, by unfold chv at e1; rw [e1]; omega⟩, ⟨by unfold szv at f1; rw [f1]; exact hs.1, by unfold szv at f1; rw [f1]; omega⟩, fun j hj => ?_⟩
  rw [f1] at hj
  obtain ⟨-, q2⟩ := f3 j hj
  obtain ⟨g1, -, g3, -⟩ := (hB (c b) hcb).2 j hj
  have ht : mb (c b) j < 60 := by omega
  obtain ⟨⟨n1, n2⟩, -, -⟩ := (hT _ ht).1 g3
  rw [q2]
  refine ⟨⟨by unfold mbv at q2; rw [q2]; exact g1, by unfold mbv at q2; rw [q2]; omega⟩, ⟨n1, n2⟩, ?_⟩
  obtain ⟨⟨-, -, -, r4, -⟩, r6, -⟩ := hR (prv im (mb (c b) j)) n2
  rw [r6]
  exact isN_of (by omega) (by decide)
