/-! WHAT TIES BOTH SIDES, part 1: the fold over the chain stands still as long as what it reads does *-/
def tS (im m : Nat → Nat → Int32) (t : Nat) : Prop := m 381 t = im 381 t ∧ m 383 t = im 383 t ∧ m 388 t = im 388 t ∧ (∀ k, k < 16 → m 385 (16 * t + k) = im 385 (16 * t + k) ∧ m 386 (16 * t + k) = im 386 (16 * t + k) ∧ m 387 (16 * t + k) = im 387 (16 * t + k)) ∧ ∀ j, j < tn (im 388 t) → m 389 (2 * t + j) = im 389 (2 * t + j) ∧ m 390 (2 * t + j) = im 390 (2 * t + j) ∧ ∀ k, k < 16 → m 391 (16 * (2 * t + j) + k) = im 391 (16 * (2 * t + j) + k)
def ruS (im m : Nat → Nat → Int32) : Prop := ∀ c, 375 ≤ c → c ≤ 380 → m c = im c
def chS (im m : Nat → Nat → Int32) (h : Nat) : Prop := ∀ b, b < h → ruS im m ∧ m 401 b = im 401 b ∧ m 395 (tn (im 401 b)) = im 395 (tn (im 401 b)) ∧ ∀ i, i < tn (im 395 (tn (im 401 b))) → m 394 (4 * tn (im 401 b) + i) = im 394 (4 * tn (im 401 b) + i) ∧ tS im m (gT im b i)
theorem fulV_r {im m : Nat → Nat → Int32} (h : ruS im m) (p : Nat) (e : Int32) : fulV m p e = fulV im p e := by
  have e1 : rR m p = rR im p := by unfold rR; rw [h 375 (by decide) (by decide)]
  have e2 : rH m p = rH im p := by unfold rH; rw [h 380 (by decide) (by decide)]
  have e3 : rK m p = rK im p := by funext i; unfold rK; rw [h 376 (by decide) (by decide)]
  have e4 : rN m p = rN im p := by funext i; unfold rN; rw [h 377 (by decide) (by decide)]
  have e5 : rP m p = rP im p := by funext i q; unfold rP; rw [h 378 (by decide) (by decide)]
  have e6 : rT m p = rT im p := by unfold rT; rw [e2, h 379 (by decide) (by decide)]
  unfold fulV
  rw [e1, e2, e3, e4, e5, e6]
theorem gFlag_c {im m : Nat → Nat → Int32} {t : Nat} (h : tS im m t) (hr : ruS im m) (ver mt : Nat → Int32) : gFlag m ver mt t = gFlag im ver mt t := by
  obtain ⟨h1, h2, h3, h4, h5⟩ := h
  have e1 : allN (sameV m ver t) 16 = allN (sameV im ver t) 16 := allN_congr (fun k hk => by unfold sameV; rw [(h4 k hk).1])
  have e2 : allN (alikK m ver t) 16 = allN (alikK im ver t) 16 := allN_congr (fun k hk => by
    unfold alikK
    rw [h3]
    exact allN_congr (fun j hj => by unfold alikV; rw [(h5 j hj).1, (h5 j hj).2.1, (h5 j hj).2.2 k hk]))
  unfold gFlag gRest
  rw [fulV_r hr, h1, h2, e1, e2]
theorem wV_c {im m : Nat → Nat → Int32} {t : Nat} (h : tS im m t) (v : Int32) (f : Nat → Int32) : wV m t v 16 f = wV im t v 16 f := by
  funext k
  unfold wV
  by_cases hk : k < 16
  · rw [(h.2.2.2.1 k hk).2.1]
  · rw [if_neg (fun z => hk z.1), if_neg (fun z => hk z.1)]
theorem wW_c {im m : Nat → Nat → Int32} {t : Nat} (h : tS im m t) (f : Nat → Int32) : wW m t 16 f = wW im t 16 f := by
  funext k
  unfold wW
  by_cases hk : k < 16
  · rw [(h.2.2.2.1 k hk).2.1, (h.2.2.2.1 k hk).2.2]
  · rw [if_neg (fun z => hk z.1), if_neg (fun z => hk z.1)]
theorem gCh_c {im m : Nat → Nat → Int32} (f : Nat → Int32) : ∀ h, chS im m h → gCh m f h = gCh im f h := by
  intro h
  induction h with
  | zero => intro _; rfl
  | succ b ih =>
    intro hS
    obtain ⟨hr, h1, h2, h3⟩ := hS b (by omega)
    show gBk m b (gCh m f b) (tn (m 395 (tn (m 401 b)))) = gBk im b (gCh im f b) (tn (im 395 (tn (im 401 b))))
    rw [ih (fun c hc => hS c (by omega)), h1, h2]
    have key : ∀ i, i ≤ tn (im 395 (tn (im 401 b))) → ∀ s, gBk m b s i = gBk im b s i := by
      intro i
      induction i with
      | zero => intro _ s; rfl
      | succ i ih2 =>
        intro hi s
        show gTx m b i (gBk m b s i) = gTx im b i (gBk im b s i)
        rw [ih2 (by omega)]
        obtain ⟨g1, g2⟩ := h3 i (by omega)
        have et : gT m b i = gT im b i := by unfold gT; rw [h1, g1]
        unfold gTx
        rw [et, gFlag_c g2 hr, wV_c g2, wW_c g2]
    exact key _ (Nat.le_refl _) _
/-- what stood in flags before does not count *-/
theorem gBk_f {im : Nat → Nat → Int32} {b : Nat} {s s' : gS} (h1 : s.1 = s'.1) (h2 : s.2.1 = s'.2.1) (h3 : s.2.2.1 = s'.2.2.1) : ∀ i, (gBk im b s i).1 = (gBk im b s' i).1 ∧ (gBk im b s i).2.1 = (gBk im b s' i).2.1 ∧ (gBk im b s i).2.2.1 = (gBk im b s' i).2.2.1 ∧ ∀ j, j < i → (gBk im b s i).2.2.2 j = (gBk im b s' i).2.2.2 j := by
  intro i
  induction i with
  | zero => exact ⟨h1, h2, h3, fun j hj => absurd hj (by omega)⟩
  | succ i ih =>
    obtain ⟨e1, e2, e3, e4⟩ := ih
    show (gTx im b i (gBk im b s i)).1 = (gTx im b i (gBk im b s' i)).1 ∧ (gTx im b i (gBk im b s i)).2.1 = (gTx im b i (gBk im b s' i)).2.1 ∧ (gTx im b i (gBk im b s i)).2.2.1 = (gTx im b i (gBk im b s' i)).2.2.1 ∧ ∀ j, j < i + 1 → (gTx im b i (gBk im b s i)).2.2.2 j = (gTx im b i (gBk im b s' i)).2.2.2 j
    unfold gTx
    simp only [e1, e2, e3]
    refine ⟨trivial, trivial, trivial, fun j hj => ?_⟩
    by_cases z : j = i
    · subst z; rw [upd_e, upd_e]
    · rw [upd_n z, upd_n z]; exact e4 j (by omega)
theorem gCh_f {im : Nat → Nat → Int32} (f f' : Nat → Int32) : ∀ h, (gCh im f h).1 = (gCh im f' h).1 ∧ (gCh im f h).2.1 = (gCh im f' h).2.1 ∧ (gCh im f h).2.2.1 = (gCh im f' h).2.2.1 ∧ ∀ b, h = b + 1 → ∀ j, j < tn (im 395 (tn (im 401 b))) → (gCh im f h).2.2.2 j = (gCh im f' h).2.2.2 j := by
  intro h
  induction h with
  | zero => exact ⟨rfl, rfl, rfl, fun b hb => absurd hb (by omega)⟩
  | succ b ih =>
    obtain ⟨e1, e2, e3, -⟩ := ih
    have k := gBk_f (im := im) (b := b) e1 e2 e3 (tn (im 395 (tn (im 401 b))))
    refine ⟨k.1, k.2.1, k.2.2.1, fun b' hb j hj => ?_⟩
    have : b' = b := by omega
    subst this
    exact k.2.2.2 j hj
def FS (im : Nat → Nat → Int32) (h : Nat) : gS := gCh im (fun _ => 0) h
theorem FS_c {im m : Nat → Nat → Int32} {h : Nat} (hS : chS im m h) : FS m h = FS im h := gCh_c _ h hS
theorem chS_le {im m : Nat → Nat → Int32} {h h' : Nat} (hS : chS im m h) (hl : h' ≤ h) : chS im m h' := fun b hb => hS b (by omega)
/-- versions are not below 0 *-/
theorem nI_nn {n : Nat} (h : n < 1000) : (0 : Int32) ≤ nI n := (nI_leI (a := 0) (by decide) (by omega)).mpr (by omega)
theorem gCh_nn {im : Nat → Nat → Int32} (f : Nat → Int32) : ∀ h, h ≤ 40 → (∀ b, b < h → tn (im 395 (tn (im 401 b))) ≤ 4) → ∀ k, 0 ≤ (gCh im f h).1 k := by
  intro h
  induction h with
  | zero => intro _ _ k; exact Int32.le_refl _
  | succ b ih =>
    intro hb hs k
    have ih := ih (by omega) (fun c hc => hs c (by omega))
    have key : ∀ i, i ≤ 4 → ∀ k, 0 ≤ (gBk im b (gCh im f b) i).1 k := by
      intro i
      induction i with
      | zero => intro _ k; exact ih k
      | succ i ih2 =>
        intro hi k
        have ih2 := ih2 (by omega)
        show 0 ≤ (if gFlag im (gBk im b (gCh im f b) i).1 (gBk im b (gCh im f b) i).2.2.1 (gT im b i) = 0 then wV im (gT im b i) (nI (1 + 4 * b + i)) 16 (gBk im b (gCh im f b) i).1 else (gBk im b (gCh im f b) i).1) k
        split
        · unfold wV
          split
          · split
            · exact nI_nn (by omega)
            · exact Int32.le_refl _
          · exact ih2 k
        · exact ih2 k
    exact key _ (hs b (by omega)) k
/-! part 2: the groups. M transactions, W waiting, C blocks, N in the chain, ld the leader (3: none); cl closed; sz, mb the blocks; c the chain *-/
def iCt (im : Nat → Nat → Int32) (M W C N ld : Nat) : Prop := (im 1 2 = nI M ∧ im 371 9 = nI M ∧ M ≤ 60) ∧ (im 1 4 = nI W ∧ im 371 25 = nI W ∧ W ≤ 20) ∧ (im 1 6 = nI C ∧ im 371 26 = nI C ∧ C ≤ 60) ∧ (im 7 1 = nI N ∧ im 371 36 = nI N ∧ N ≤ 40) ∧ im 371 34 = im 1 8 ∧ ((im 1 8 = -1 ∧ ld = 3) ∨ (im 1 8 = nI ld ∧ ld < 3))
def iCd (im : Nat → Nat → Int32) : Prop := ∃ (ln : Nat → Nat) (op : Nat → Nat → Nat) (od : Nat → Nat → Int32), ∀ p, p < 4 → (im (4 * p + 14) 2 = nI (ln p) ∧ im 372 p = nI (ln p) ∧ ln p ≤ 12) ∧ ∀ i, i < ln p → im (4 * p + 15) i = nI (op p i) ∧ im 373 (12 * p + i) = nI (op p i) ∧ op p i ≤ 10 ∧ im (4 * p + 16) i = od p i ∧ im 374 (12 * p + i) = od p i ∧ (op p i = 6 → od p i = nI (tn (od p i)) ∧ tn (od p i) ≤ 12)
def rX (im : Nat → Nat → Int32) (p h : Nat) : Nat := tn (im 379 (9 * p + h)) - 9 * p
def rV (im : Nat → Nat → Int32) (p e i : Nat) : Int32 := flF (nI e) (rK im p) (rN im p) (rP im p) (fun _ => 0) (rR im p) i
def bitN (x : Int32) (e : Nat) : Int32 := (x >>> (nI e &&& 31)) &&& 1
def iRu (im : Nat → Nat → Int32) : Prop := ∀ p, p < 4 → okR im p ∧ im (4 * p + 14) 4 = nI (rH im p) ∧ im (4 * p + 14) 5 = nI (rR im p) ∧ rH im p ≤ rR im p ∧ ∀ h, h < rH im p → im 379 (9 * p + h) = nI (9 * p + rX im p h) ∧ rX im p h < rR im p ∧ ∀ e, e < 16 → bitN (im (4 * p + 17) h) e = rV im p e (rX im p h)
def iT1 (im : Nat → Nat → Int32) (M : Nat) (cl : Nat → Bool) (t : Nat) : Prop := (t < M → isN (im (3 * t + 30) 0) 4 ∧ im 381 t = im (3 * t + 30) 0 ∧ im 382 t = im (3 * t + 30) 1) ∧ (isN (im (3 * t + 30) 2) 16 ∧ im 383 t = im (3 * t + 30) 2) ∧ (im (3 * t + 30) 3 = bI (cl t) ∧ im 384 t = bI (cl t)) ∧ (M ≤ t → im (3 * t + 30) 2 = 0 ∧ cl t = false) ∧ (cl t = true → im (3 * t + 30) 2 ≠ 0) ∧ (im (3 * t + 30) 2 = 0 → im 388 t = 0 ∧ im (3 * t + 31) 1 = 0 ∧ ∀ k, k < 80 → im (3 * t + 32) k = if k < 48 then -1 else 0) ∧ (im (3 * t + 30) 2 ≠ 0 → ∃ r, im (3 * t + 31) 1 = nI r ∧ resR im t (im (3 * t + 32)) r)
def iTx (im : Nat → Nat → Int32) (M : Nat) (cl : Nat → Bool) : Prop := ∀ t, t < 60 → iT1 im M cl t
def iWt (im : Nat → Nat → Int32) (M W : Nat) (cl : Nat → Bool) : Prop := ∀ i, i < W → im 393 i = im 4 i ∧ isN (im 4 i) M ∧ cl (tn (im 4 i)) = true
def iBk (im : Nat → Nat → Int32) (M C : Nat) (cl : Nat → Bool) (sz : Nat → Nat) (mb : Nat → Nat → Nat) : Prop := ∀ b, b < C → (im (2 * b + 210) 1 = nI (sz b) ∧ im 395 b = nI (sz b) ∧ 1 ≤ sz b ∧ sz b ≤ 4) ∧ ∀ i, i < sz b → im (2 * b + 211) i = nI (mb b i) ∧ im 394 (4 * b + i) = nI (mb b i) ∧ mb b i < M ∧ cl (mb b i) = true
def iCh (im : Nat → Nat → Int32) (C N : Nat) (c : Nat → Nat) : Prop := ∀ i, i < N → im 8 i = nI (c i) ∧ im 401 i = nI (c i) ∧ c i < C
def iOr (K : Nat) (im : Nat → Nat → Int32) (C N ld : Nat) (c : Nat → Nat) : Prop := ∃ (up : Nat → Bool) (tm n T : Nat → Nat) (g : Nat → Nat → Nat) (G : Nat), (∀ o, o < 3 → (im (3 * o + 330) 0 = bI (up o) ∧ im 397 o = bI (!up o)) ∧ (im (3 * o + 330) 1 = nI (tm o) ∧ im 398 o = nI (tm o) ∧ tm o ≤ K) ∧ (im (3 * o + 331) 1 = nI (n o) ∧ im 400 o = nI (n o) ∧ n o ≤ 40) ∧ ∀ i, i < n o → im (3 * o + 332) i = nI (g o i) ∧ im 399 (40 * o + i) = nI (g o i)) ∧ (∀ b, b < C → im (2 * b + 210) 2 = nI (T b) ∧ im 396 b = nI (T b) ∧ T b ≤ K) ∧ ag_I n g T tm up ld N c C G
def iP1 (im : Nat → Nat → Int32) (N : Nat) (sz c : Nat → Nat) (p : Nat) (pu : Bool) (st sv : Nat) : Prop := (im (8 * p + 339) 0 = bI pu ∧ im 402 p = bI (!pu)) ∧ (im (8 * p + 339) 1 = nI st ∧ im 403 p = nI st ∧ st ≤ N) ∧ (im (8 * p + 343) 2 = nI sv ∧ im 404 p = nI sv ∧ sv ≤ st ∧ sv % 4 = 0 ∧ (pu = true → sv = st / 4 * 4)) ∧ (isN (im (8 * p + 340) 2) 41 ∧ (pu = true → im (8 * p + 340) 2 = nI st)) ∧ (∀ k, k < 16 → im (8 * p + 344) k = (FS im sv).1 k ∧ im (8 * p + 345) k = (FS im sv).2.1 k) ∧ (pu = true → ∀ k, k < 16 → im (8 * p + 341) k = (FS im st).1 k ∧ im (8 * p + 342) k = (FS im st).2.1 k) ∧ ∀ b, b < (if pu = true then st else sv) → ∀ j, j < sz (c b) → im (8 * p + 346) (4 * b + j) = (FS im (b + 1)).2.2.2 j
def iPe (im : Nat → Nat → Int32) (N : Nat) (sz c : Nat → Nat) : Prop := ∃ (pu : Nat → Bool) (st sv : Nat → Nat), ∀ p, p < 4 → iP1 im N sz c p (pu p) (st p) (sv p)
def Inv (K : Nat) (im : Nat → Nat → Int32) : Prop := ∃ (M W C N ld : Nat) (cl : Nat → Bool) (sz c : Nat → Nat) (mb : Nat → Nat → Nat), iCt im M W C N ld ∧ iCd im ∧ iRu im ∧ iTx im M cl ∧ iWt im M W cl ∧ iBk im M C cl sz mb ∧ iCh im C N c ∧ iOr K im C N ld c ∧ iPe im N sz c
