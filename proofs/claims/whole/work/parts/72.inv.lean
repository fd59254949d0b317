/-! part 5: the class's verdict is the reference's flag *-/
theorem bit_b (x : Int32) (e : Nat) : bitN x e = 0 ∨ bitN x e = 1 := by
  obtain ⟨j, hj, h⟩ := pk_andE (x >>> (nI e &&& 31)) (m := 1) 1 (by decide)
  unfold bitN
  rw [h]
  rcases (show j = 0 ∨ j = 1 by omega) with rfl | rfl
  · exact Or.inl rfl
  · exact Or.inr rfl
theorem met_eq {im : Nat → Nat → Int32} {p e : Nat} (hp : p < 4) (he : e < 16) (hR : iRu im) : metB im p (nI e) = false ↔ fulV im p (nI e) = 0 := by
  obtain ⟨h1, h2, h3, h4, h5⟩ := hR p hp
  have r9 : rH im p ≤ 9 := h1.2.2.2.1
  have eh : hgv im p = rH im p := by unfold hgv; rw [h2, tn_nI (by omega)]
  unfold metB fulV
  rw [eh]
  by_cases z : rH im p = 0
  · rw [z]; simp
  · obtain ⟨g1, g2, g3⟩ := h5 (rH im p - 1) (by omega)
    have g4 := g3 e he
    have b4 := bit_b (im (4 * p + 17) (rH im p - 1)) e
    rw [if_neg z]
    show (decide (0 < rH im p) && decide (bitN (im (4 * p + 17) (rH im p - 1)) e = 1)) = false ↔ (if rV im p e (rX im p (rH im p - 1)) = 0 then (0 : Int32) else 1) = 0
    rw [g4] at b4 ⊢
    rw [decide_eq_true (show 0 < rH im p by omega), Bool.true_and]
    rcases b4 with w | w
    · rw [w]; decide
    · rw [w]; decide
/-- who stood in the chain before *-/
theorem gBk_m {im : Nat → Nat → Int32} {b t : Nat} {s : gS} : ∀ i, (gBk im b s i).2.2.1 t ≠ 0 ↔ (s.2.2.1 t ≠ 0 ∨ ∃ j, j < i ∧ gT im b j = t) := by
  intro i
  induction i with
  | zero =>
    constructor
    · intro h; exact Or.inl h
    · rintro (h | ⟨j, hj, -⟩)
      · exact h
      · omega
  | succ i ih =>
    show upd (gBk im b s i).2.2.1 (gT im b i) 1 t ≠ 0 ↔ _
    by_cases z : t = gT im b i
    · rw [z, upd_e]
      exact ⟨fun _ => Or.inr ⟨i, by omega, rfl⟩, fun _ => by decide⟩
    · rw [upd_n z, ih]
      constructor
      · rintro (h | ⟨j, hj, e⟩)
        · exact Or.inl h
        · exact Or.inr ⟨j, by omega, e⟩
      · rintro (h | ⟨j, hj, e⟩)
        · exact Or.inl h
        · by_cases w : j = i
          · subst w; exact absurd e.symm z
          · exact Or.inr ⟨j, by omega, e⟩
theorem gCh_m {im : Nat → Nat → Int32} {t : Nat} (f : Nat → Int32) : ∀ h, (gCh im f h).2.2.1 t ≠ 0 ↔ ∃ b, b < h ∧ ∃ j, j < tn (im 395 (tn (im 401 b))) ∧ gT im b j = t := by
  intro h
  induction h with
  | zero => exact ⟨fun z => absurd rfl z, fun ⟨b, hb, _⟩ => absurd hb (by omega)⟩
  | succ b ih =>
    show (gBk im b (gCh im f b) (tn (im 395 (tn (im 401 b))))).2.2.1 t ≠ 0 ↔ _
    rw [gBk_m, ih]
    constructor
    · rintro (⟨b', hb, j, hj, e⟩ | ⟨j, hj, e⟩)
      · exact ⟨b', by omega, j, hj, e⟩
      · exact ⟨b, by omega, j, hj, e⟩
    · rintro ⟨b', hb, j, hj, e⟩
      by_cases w : b' = b
      · subst w; exact Or.inr ⟨j, hj, e⟩
      · exact Or.inl ⟨b', by omega, j, hj, e⟩
theorem ear_eq {im : Nat → Nat → Int32} {M C N : Nat} {cl : Nat → Bool} {sz c : Nat → Nat} {mb : Nat → Nat → Nat} (hM : M ≤ 60) (hC : C ≤ 60) (hB : iBk im M C cl sz mb) (hc : iCh im C N c) {b i t : Nat} (hb : b < N) (hi : i ≤ sz (c b)) (ht : t < 60) : earB im (nI t) b i = true ↔ (gBk im b (FS im b) i).2.2.1 t ≠ 0 := by
  rw [gBk_m]
  unfold FS
  rw [gCh_m]
  unfold earB
  rw [Bool.or_eq_true, anyN_iff, anyN_iff]
  have cell : ∀ b', b' < N → ∀ j, j < sz (c b') → (decide (im (2 * chv im b' + 211) j = nI t) = true ↔ gT im b' j = t) := by
    intro b' hb' j hj
    have hcb := (hc b' hb').2.2
    obtain ⟨g1, -, g3, -⟩ := (hB (c b') hcb).2 j hj
    rw [gT_v hM hC hB hc hb' hj, (ch_v hC hc hb').2, g1, decide_eq_true_iff]
    exact nI_eq (by omega) (by omega)
  have size : ∀ b', b' < N → szv im (chv im b') = sz (c b') ∧ tn (im 395 (tn (im 401 b'))) = sz (c b') := by
    intro b' hb'
    have hcb := (hc b' hb').2.2
    rw [(ch_v hC hc hb').1, (ch_v hC hc hb').2]
    exact ⟨(bk_v hM hB hcb).2.1, (bk_v hM hB hcb).1⟩
  apply or_congr
  · constructor
    · rintro ⟨b', hb', h⟩
      rw [anyN_iff, (size b' (by omega)).1] at h
      obtain ⟨j, hj, h⟩ := h
      exact ⟨b', hb', j, by rw [(size b' (by omega)).2]; exact hj, (cell b' (by omega) j hj).mp h⟩
    · rintro ⟨b', hb', j, hj, h⟩
      rw [(size b' (by omega)).2] at hj
      exact ⟨b', hb', by rw [anyN_iff, (size b' (by omega)).1]; exact ⟨j, hj, (cell b' (by omega) j hj).mpr h⟩⟩
  · constructor
    · rintro ⟨j, hj, h⟩
      exact ⟨j, hj, (cell b hb j (by omega)).mp h⟩
    · rintro ⟨j, hj, h⟩
      exact ⟨j, hj, (cell b hb j (by omega)).mpr h⟩
theorem nI_ltn {x : Int32} (h : x = -1 ∨ 0 ≤ x) : (x < 0) ↔ x = -1 := by
  constructor
  · intro z
    rcases h with h | h
    · exact h
    · exact absurd z (Int32.not_lt.mpr h)
  · intro z; rw [z]; decide
theorem row0_eq {im : Nat → Nat → Int32} {t r : Nat} {cc ver : Nat → Int32} (h : resR im t cc r) : allN (fun k => decide (cc (16 * 0 + k) = -1) || decide (cc (16 * 0 + k) = ver k)) 16 = allN (sameV im ver t) 16 := by
  obtain ⟨-, -, h3, h4, -⟩ := h
  refine allN_congr (fun k hk => ?_)
  unfold sameV
  rw [(h4 k hk).1, show 16 * 0 + k = k by omega]
  have := nI_ltn (h3 k hk).1
  by_cases z : cc k = -1
  · rw [decide_eq_true z, decide_eq_true (this.mpr z)]
  · rw [decide_eq_false z, decide_eq_false (fun w => z (this.mp w))]
theorem rowj_eq {im : Nat → Nat → Int32} {t r j k : Nat} {cc ver : Nat → Int32} (h : resR im t cc r) (hj : j < 2) (hk : k < 16) : (decide (cc (16 * (1 + j) + k) = -1) || decide (cc (16 * (1 + j) + k) = ver k)) = (if j < r then alikV im ver t k j else true) := by
  obtain ⟨-, -, -, -, h5⟩ := h
  by_cases z : j < r
  · rw [if_pos z]
    obtain ⟨lo, hi, e1, e2, e3, e4, e5, e6⟩ := (h5 j hj).1 z
    obtain ⟨a1, a2⟩ := e6 k hk
    unfold alikV
    rw [e1, e2]
    by_cases w : lo ≤ k ∧ k ≤ hi
    · obtain ⟨q1, q2⟩ := a1 w
      have q1 : cc (16 * (1 + j) + k) = im 391 (16 * (2 * t + j) + k) := q1
      have q2 : 0 ≤ im 391 (16 * (2 * t + j) + k) := q2
      have n1 : ¬ nI k < nI lo := nI_ge2 w.1 (by omega)
      have n2 : ¬ nI hi < nI k := nI_ge2 w.2 (by omega)
      have n3 : ¬ im 391 (16 * (2 * t + j) + k) = -1 := fun y => by rw [y] at q2; exact absurd q2 (by decide)
      rw [q1, decide_eq_false n1, decide_eq_false n2, decide_eq_false n3]
      rfl
    · obtain ⟨q1, -⟩ := a2 w
      have q1 : cc (16 * (1 + j) + k) = -1 := q1
      rw [decide_eq_true q1, Bool.true_or]
      by_cases y : k < lo
      · rw [decide_eq_true (nI_lt y (by omega))]; simp
      · rw [decide_eq_true (nI_lt (show hi < k by omega) (by omega))]; simp
  · rw [if_neg z, decide_eq_true ((h5 j hj).2 (by omega) k hk), Bool.true_or]
theorem row12_eq {im : Nat → Nat → Int32} {t r : Nat} {cc ver : Nat → Int32} (h : resR im t cc r) : (allN (fun k => decide (cc (16 * 1 + k) = -1) || decide (cc (16 * 1 + k) = ver k)) 16 = true ∧ allN (fun k => decide (cc (16 * 2 + k) = -1) || decide (cc (16 * 2 + k) = ver k)) 16 = true) ↔ allN (alikK im ver t) 16 = true := by
  have hr := h.1
  have hr2 := h.2.1
  rw [allN_iff, allN_iff, allN_iff]
  have e1 : ∀ k, k < 16 → (decide (cc (16 * 1 + k) = -1) || decide (cc (16 * 1 + k) = ver k)) = (if 0 < r then alikV im ver t k 0 else true) := fun k hk => rowj_eq (j := 0) h (by decide) hk
  have e2 : ∀ k, k < 16 → (decide (cc (16 * 2 + k) = -1) || decide (cc (16 * 2 + k) = ver k)) = (if 1 < r then alikV im ver t k 1 else true) := fun k hk => rowj_eq (j := 1) h (by decide) hk
  have e3 : ∀ k, alikK im ver t k = allN (alikV im ver t k) r := fun k => by unfold alikK; rw [hr, tn_nI (by omega)]
  constructor
  · rintro ⟨a, b⟩ k hk
    have a := a k hk
    have b := b k hk
    rw [e1 k hk] at a
    rw [e2 k hk] at b
    rw [e3, allN_iff]
    intro j hj
    rcases (show j = 0 ∨ j = 1 by omega) with rfl | rfl
    · rw [if_pos hj] at a; exact a
    · rw [if_pos hj] at b; exact b
  · intro a
    refine ⟨fun k hk => ?_, fun k hk => ?_⟩
    · rw [e1 k hk]
      have := a k hk
      rw [e3, allN_iff] at this
      split
      · exact this 0 (by assumption)
      · rfl
    · rw [e2 k hk]
      have := a k hk
      rw [e3, allN_iff] at this
      split
      · exact this 1 (by assumption)
      · rfl
/-- the verdict over the state ver, at the memory im *-/
theorem jdg_eq {im q : Nat → Nat → Int32} {M C N : Nat} {cl : Nat → Bool} {sz c : Nat → Nat} {mb : Nat → Nat → Nat} (hM : M ≤ 60) (hC : C ≤ 60) (hB : iBk im M C cl sz mb) (hc : iCh im C N c) (hT : iTx im M cl) (hR : iRu im) {p b i : Nat} (hq : ∀ c, c < 339 → q c = im c) (hb : b < N) (hi : i < sz (c b)) (hv : ∀ k, k < 16 → q (8 * p + 341) k = (gBk im b (FS im b) i).1 k) : jdg q (8 * p + 340) b i = gFlag im (gBk im b (FS im b) i).1 (gBk im b (FS im b) i).2.2.1 (gT im b i) := by
  have hcb := (hc b hb).2.2
  obtain ⟨g1, g2, g3, g4⟩ := (hB (c b) hcb).2 i hi
  have ht : mb (c b) i < 60 := by omega
  obtain ⟨i1, ⟨⟨i2, i2b⟩, i3⟩, i4, i5, i6, i7, i8⟩ := hT _ ht
  obtain ⟨⟨n1, n2⟩, n3, -⟩ := i1 g3
  obtain ⟨r, r1, r2⟩ := i8 (i6 g4)
  have ech : ∀ b, chv q b = chv im b := fun b => by unfold chv; rw [hq 8 (by decide)]
  have emb : mbv q (chv q b) i = mb (c b) i := by
    rw [ech, (ch_v hC hc hb).2]
    unfold mbv
    rw [hq _ (by omega), g1, tn_nI (by omega)]
  have eear : earB q (nI (mb (c b) i)) b i = earB im (nI (mb (c b) i)) b i := by
    have sze : ∀ b', b' < N → szv q (chv q b') = szv im (chv im b') ∧ q (2 * chv q b' + 211) = im (2 * chv im b' + 211) := by
      intro b' hb'
      have h3 := (hc b' hb').2.2
      rw [ech, (ch_v hC hc hb').2]
      unfold szv
      rw [hq _ (by omega), hq _ (by omega)]
      exact ⟨rfl, rfl⟩
    unfold earB
    rw [(sze b hb).2]
    congr 1
    refine anyN_congr (fun b' hb' => ?_)
    rw [(sze b' (by omega)).1, (sze b' (by omega)).2]
  have emet : metB q (tn (im (3 * mb (c b) i + 30) 0)) (q (3 * mb (c b) i + 30) 2) = metB im (tn (im (3 * mb (c b) i + 30) 0)) (im (3 * mb (c b) i + 30) 2) := by
    unfold metB hgv
    rw [hq _ (by omega), hq _ (by omega), hq _ (by omega)]
  have eprv : prv q (mb (c b) i) = tn (im (3 * mb (c b) i + 30) 0) := by unfold prv; rw [hq _ (by omega)]
  have erow : ∀ j, rowB q (3 * mb (c b) i + 31) (8 * p + 340) j = allN (fun k => decide (im (3 * mb (c b) i + 32) (16 * j + k) = -1) || decide (im (3 * mb (c b) i + 32) (16 * j + k) = (gBk im b (FS im b) i).1 k)) 16 := by
    intro j
    unfold rowB
    refine allN_congr (fun k hk => ?_)
    rw [show 3 * mb (c b) i + 31 + 1 = 3 * mb (c b) i + 32 by omega, show 8 * p + 340 + 1 = 8 * p + 341 by omega, hq _ (by omega), hv k hk]
  have em := met_eq (p := tn (im (3 * mb (c b) i + 30) 0)) n2 i2b hR
  rw [← i2] at em
  have e1 := ear_eq hM hC hB hc hb (Nat.le_of_lt hi) ht
  unfold jdg
  simp only [emb, eear, eprv, emet, erow]
  rw [gT_v hM hC hB hc hb hi]
  unfold gFlag gRest
  rw [n3, i3]
  by_cases z1 : (gBk im b (FS im b) i).2.2.1 (mb (c b) i) ≠ 0
  · rw [if_pos (e1.mpr z1), if_pos z1]
  · rw [if_neg (fun w => z1 (e1.mp w)), if_neg z1]
    by_cases z2 : fulV im (tn (im (3 * mb (c b) i + 30) 0)) (im (3 * mb (c b) i + 30) 2) = 0
    · rw [if_pos (em.mpr z2), if_pos z2]
    · rw [if_neg (fun w => z2 (em.mp w)), if_neg z2, row0_eq r2]
      by_cases z3 : allN (sameV im (gBk im b (FS im b) i).1 (mb (c b) i)) 16 = false
      · rw [if_pos z3, if_pos z3]
      · rw [if_neg z3, if_neg z3]
        have e4 := row12_eq (ver := (gBk im b (FS im b) i).1) r2
        by_cases z4 : allN (alikK im (gBk im b (FS im b) i).1 (mb (c b) i)) 16 = true
        · rw [if_pos (e4.mpr z4), if_neg (by rw [z4]; decide)]
        · rw [if_neg (fun w => z4 (e4.mp w)), if_pos (by simpa using z4)]
