/-! PAIRS: a call on the class, the same call on the reference: the same answer, and what ties both stands *-/
def PX (LS : Nat) (rm : Nat → Nat → Option Nat) (K : Nat) (im : Nat → Nat → Int32) (i j : Nat) (as : List Value) : Prop := Gm LS rm i 0 (en_in i (.ref 1 :: as)) [] im (fun r im1 => ∃ v, r = some (.int v) ∧ Gm LS rm j 0 (en_in j (.ref 371 :: as)) [] im1 (fun r2 im2 => r2 = some (.int v) ∧ Inv (K + 1) im2))
theorem Inv_k {K : Nat} {im : Nat → Nat → Int32} (h : Inv K im) : Inv (K + 1) im := by
  obtain ⟨M, W, C, N, ld, cl, sz, c, mb, h1, h2, h3, h4, h5, h6, h7, h8, h9⟩ := h
  exact ⟨M, W, C, N, ld, cl, sz, c, mb, h1, h2, h3, h4, h5, h6, h7, iOr_k h8, h9⟩
theorem chS_fr {im m : Nat → Nat → Int32} {M C N : Nat} {cl : Nat → Bool} {sz c : Nat → Nat} {mb : Nat → Nat → Nat} (hM : M ≤ 60) (hC : C ≤ 60) (hB : iBk im M C cl sz mb) (hc : iCh im C N c) (hT : iTx im M cl) (h : ∀ c x, (375 ≤ c ∧ c ≤ 381) ∨ c = 383 ∨ (385 ≤ c ∧ c ≤ 391 ∧ xTx c x) ∨ c = 394 ∨ c = 395 ∨ c = 401 → m c x = im c x) : chS im m N := chS_of hM hC hB hc hT (fun _ c h1 h2 => by funext x; exact h c x (by omega)) (fun b _ => h _ _ (by omega)) (fun b _ => ⟨h _ _ (by omega), fun i _ => h _ _ (by omega)⟩) (fun t ht _ => ⟨h _ _ (by omega), h _ _ (by omega), tE_f (by omega) (fun c x h1 h2 h3 => h c x (Or.inr (Or.inr (Or.inl ⟨h1, h2, h3⟩))))⟩)
theorem Inv_GR {K : Nat} {im m : Nat → Nat → Int32} (hg : ∀ c, c < 405 ∨ 409 < c → m c = im c) (h : Inv K im) : Inv K m := by
  obtain ⟨M, W, C, N, ld, cl, sz, c, mb, h1, h2, h3, h4, h5, h6, h7, h8, h9⟩ := h
  have hM := h1.1.2.2
  have hC := h1.2.2.1.2.2
  have hg' : ∀ c x, c < 405 → m c x = im c x := fun c x hc => by rw [hg c (Or.inl hc)]
  exact ⟨M, W, C, N, ld, cl, sz, c, mb, iCt_f (fun c x hx => hg' c x (by unfold xCt at hx; omega)) h1, iCd_f (fun c x hx => hg' c x (by unfold xCd at hx; omega)) h2, iRu_f (fun c x hx => hg' c x (by unfold xRu at hx; omega)) h3, iTx_f (fun c x hx => hg' c x (by unfold xTx at hx; omega)) h4, iWt_f (fun c x hx => hg' c x (by unfold xWt at hx; omega)) h5, iBk_f hC (fun c x hx => hg' c x (by unfold xBk at hx; omega)) h6, iCh_f (fun c x hx => hg' c x (by unfold xCh at hx; omega)) h7, iOr_f hC (fun c x hx => hg' c x (by unfold xOr at hx; omega)) h8, iPe_f (fun c x hx => hg' c x (by unfold xPe at hx; omega)) (chS_fr hM hC h6 h7 h4 (fun c x hx => hg' c x (by omega))) h9⟩
theorem bI_z {b : Bool} : bI b = 0 ↔ b = false := by cases b <;> decide
theorem cnt_eq {f : Nat → Int32} {e : Int32} {p : Nat → Bool} : ∀ n, (∀ k, k < n → (f k = e ↔ p k = false)) → cntN f e n = cntB p n := by
  intro n
  induction n with
  | zero => intro _; rfl
  | succ n ih =>
    intro h
    show cntN f e n + (if f n = e then 0 else 1) = cntB p n + (if p n = true then 1 else 0)
    rw [ih (fun k hk => h k (by omega))]
    by_cases z : f n = e
    · rw [if_pos z, if_neg (by rw [(h n (by omega)).mp z]; decide)]
    · rw [if_neg z, if_pos (by cases hp : p n with | true => rfl | false => exact absurd ((h n (by omega)).mpr hp) z)]
theorem cnt_0 {f : Nat → Int32} {e : Int32} : ∀ n, (∀ k, k < n → f k = e) → cntN f e n = 0 := by
  intro n
  induction n with
  | zero => intro _; rfl
  | succ n ih => intro h; show cntN f e n + (if f n = e then 0 else 1) = 0; rw [ih (fun k hk => h k (by omega)), if_pos (h n (by omega))]
section PAIRS
variable {LS : Nat} {rm : Nat → Nat → Option Nat} {K : Nat} {im : Nat → Nat → Int32}
theorem p_12 {a1 a2 : Int32} (hM : isLd LS rm) (hO : isMo LS rm) (hI : Inv K im) : PX LS rm K im 12 115 [.int a1, .int a2] := by
  have hI' := Inv_k hI
  obtain ⟨M, W, C, N, ld, cl, sz, c, mb, h1, h2, h3, h4, h5, h6, h7, h8, h9⟩ := hI
  obtain ⟨m1, m2, m3⟩ := h1.1
  refine x12 (m := M) hM m1 m3 (fun t q ht hq ea eb => ⟨_, rfl, y12 (m := M) hO m2 m3 (fun t' q' ht' hq' ea' eb' => ⟨?_, hI'⟩) (fun h => absurd ⟨ht, hq, ea, eb⟩ (h t q))⟩) (fun h => ⟨_, rfl, y12 (m := M) hO m2 m3 (fun t q ht hq ea eb => absurd ⟨ht, hq, ea, eb⟩ (h t q)) (fun _ => ⟨rfl, hI'⟩)⟩)
  have z1 := nI_inj (ea'.symm.trans ea) (by omega) (by omega)
  have z2 := nI_inj (eb'.symm.trans eb) (by omega) (by omega)
  subst z1
  subst z2
  obtain ⟨i1, ⟨-, i3⟩, ⟨i4, i4b⟩, i5, i6, i7, i8⟩ := h4 t' (by omega)
  obtain ⟨-, n3, n4⟩ := i1 ht
  congr 2
  unfold txR
  rw [n3, n4, i3, i4, i4b]
  by_cases z : im (3 * t' + 30) 2 = 0
  · obtain ⟨j1, j2, j3⟩ := i7 z
    rw [j1, j2, z, cnt_0 16 (fun k hk => by rw [j3 _ (by omega), if_pos (by omega)]), cnt_0 16 (fun k hk => by rw [j3 _ (by omega), if_neg (by omega)])]
    rfl
  · obtain ⟨r, r1, r2⟩ := i8 z
    obtain ⟨a1', a2', a3', a4', a5'⟩ := r2
    rw [a1', r1, if_neg z, if_neg z]
    have c1 : cntN (fun k => im (3 * t' + 32) (16 * 0 + k)) (-1) 16 = cntB (rdR im t') 16 := cnt_eq 16 (fun k hk => by
      have := nI_ltn (a3' k hk).1
      show im (3 * t' + 32) (16 * 0 + k) = -1 ↔ rdR im t' k = false
      unfold rdR
      rw [(a4' k hk).1, show 16 * 0 + k = k by omega, decide_eq_false_iff_not, Decidable.not_not]
      exact this.symm)
    have c2 : cntN (fun k => im (3 * t' + 32) (16 * 3 + k)) 0 16 = cntB (wrR im t') 16 := cnt_eq 16 (fun k hk => by
      show im (3 * t' + 32) (16 * 3 + k) = 0 ↔ wrR im t' k = false
      unfold wrR
      rw [(a4' k hk).2.1, show 16 * 3 + k = 48 + k by omega]
      rcases (a3' k hk).2 with e | e | e
      · rw [e]; decide
      · rw [e]; decide
      · rw [e.1]; decide)
    rw [c1, c2]
theorem p_13 {a1 a2 a3 : Int32} (hM : isLd LS rm) (hO : isMo LS rm) (hI : Inv K im) : PX LS rm K im 13 116 [.int a1, .int a2, .int a3] := by
  have hI' := Inv_k hI
  obtain ⟨M, W, C, N, ld, cl, sz, c, mb, h1, h2, h3, h4, h5, h6, h7, h8, h9⟩ := hI
  obtain ⟨m1, m2, m3⟩ := h1.1
  have en : ∀ t, t < M → im 383 t = im (3 * t + 30) 2 := fun t ht => (h4 t (by omega)).2.1.2
  refine x13 (m := M) hM m1 m3 (fun t k r ht hk hr ea eb ec ee => ⟨_, rfl, y13 (m := M) hO m2 m3 (fun t' k' r' ht' hk' hr' ea' eb' ec' ee' => ⟨?_, hI'⟩) (fun h => absurd ⟨ht, hk, hr, ea, eb, ec, by rw [en t ht]; exact ee⟩ (h t k r))⟩) (fun h => ⟨_, rfl, y13 (m := M) hO m2 m3 (fun t k r ht hk hr ea eb ec ee => absurd ⟨ht, hk, hr, ea, eb, ec, by rw [en t ht] at ee; exact ee⟩ (h t k r)) (fun _ => ⟨rfl, hI'⟩)⟩)
  have z1 := nI_inj (ea'.symm.trans ea) (by omega) (by omega)
  have z2 := nI_inj (eb'.symm.trans eb) (by omega) (by omega)
  have z3 := nI_inj (ec'.symm.trans ec) (by omega) (by omega)
  subst z1
  subst z2
  subst z3
  obtain ⟨-, -, -, -, -, -, i8⟩ := h4 t' (by omega)
  obtain ⟨r, r1, b1, b2, b3, b4, b5⟩ := i8 ee
  obtain ⟨q1, q2, q3⟩ := b4 k' hk'
  congr 2
  unfold acR
  rw [q1, q2, q3, b1]
  rcases (show r' = 0 ∨ r' = 3 ∨ r' = 4 ∨ (1 ≤ r' ∧ r' ≤ 2) by omega) with rfl | rfl | rfl | hr2
  · rw [if_pos rfl]; congr 1; omega
  · rw [if_neg (by decide), if_pos rfl]
  · rw [if_neg (by decide), if_neg (by decide), if_pos rfl]
  · rw [if_neg (by omega), if_neg (by omega), if_neg (by omega)]
    obtain ⟨c1, c2⟩ := b5 (r' - 1) (by omega)
    rw [show 16 * (1 + (r' - 1)) = 16 * r' by omega] at c1 c2
    by_cases z : r' - 1 < r
    · obtain ⟨lo, hi, e1, e2, e3, e4, e5, e6⟩ := c1 z
      obtain ⟨d1, d2⟩ := e6 k' hk'
      rw [e1, e2]
      by_cases w : lo ≤ k' ∧ k' ≤ hi
      · rw [if_neg (fun y => by
          rcases y with y | y | y
          · exact nI_ge2 (show r' ≤ r by omega) (by omega) y
          · exact nI_ge2 w.1 (by omega) y
          · exact nI_ge2 w.2 (by omega) y)]
        exact (d1 w).1.symm
      · rw [if_pos (by
          by_cases y : k' < lo
          · exact Or.inr (Or.inl (nI_lt y (by omega)))
          · exact Or.inr (Or.inr (nI_lt (show hi < k' by omega) (by omega))))]
        exact (d2 w).1.symm
    · rw [if_pos (Or.inl (nI_lt (show r < r' by omega) (by omega)))]
      exact (c2 (by omega) k' hk').symm
theorem bk_rb {M C : Nat} {cl : Nat → Bool} {sz : Nat → Nat} {mb : Nat → Nat → Nat} (hM : M ≤ 60) (h : iBk im M C cl sz mb) {b : Nat} (hb : b < C) {w x : Int32} : rbAt im b w x = bkAt im b w x := by
  obtain ⟨⟨a1, a2, a3, a4⟩, a5⟩ := h b hb
  have es := (bk_v hM h hb).2.1
  unfold rbAt bkAt
  rw [es, a2]
  by_cases z : x = -1
  · rw [if_pos z, if_pos z]
  · rw [if_neg z, if_neg z]
    by_cases y : x < 0 ∨ nI (sz b) ≤ x
    · rw [if_pos y, if_pos y]
    · rw [if_neg y, if_neg y]
      obtain ⟨q, hq, e⟩ := w_in (n := sz b) (by omega) (Int32.not_lt.mp (fun v => y (Or.inl v))) (Int32.not_le.mp (fun v => y (Or.inr v)))
      rw [e, tn_nI (by omega), (a5 q hq).1, (a5 q hq).2.1]
theorem p_16 {a1 a2 : Int32} (hM : isLd LS rm) (hO : isMo LS rm) (hI : Inv K im) : PX LS rm K im 16 120 [.int a1, .int a2] := by
  have hI' := Inv_k hI
  obtain ⟨M, W, C, N, ld, cl, sz, c, mb, h1, h2, h3, h4, h5, h6, h7, h8, h9⟩ := hI
  obtain ⟨n1, n2, n3⟩ := h1.2.2.2.1
  have hM60 := h1.1.2.2
  have hC := h1.2.2.1.2.2
  have hch : ∀ b, b < N → im 401 b = nI (c b) ∧ c b < 60 ∧ im 395 (c b) = nI (sz (c b)) ∧ sz (c b) ≤ 4 := fun b hb => ⟨(h7 b hb).2.1, by have := (h7 b hb).2.2; omega, (h6 _ (h7 b hb).2.2).1.2.1, (h6 _ (h7 b hb).2.2).1.2.2.2⟩
  refine x16 (c := N) hM n1 n3 (okC_of hM60 hC h6 h7 h4 h3) (fun b hb ea => ⟨_, rfl, y16 (c := N) (ch := c) (sz := sz) hO n2 n3 hch (fun b' hb' ea' => ⟨?_, hI'⟩) (fun h => absurd ⟨hb, ea⟩ (h b))⟩) (fun h => ⟨_, rfl, y16 (c := N) (ch := c) (sz := sz) hO n2 n3 hch (fun b hb ea => absurd ⟨hb, ea⟩ (h b)) (fun _ => ⟨rfl, hI'⟩)⟩)
  have z1 := nI_inj (ea'.symm.trans ea) (by omega) (by omega)
  subst z1
  have hcb := (h7 b' hb).2.2
  rw [(ch_v hC h7 hb).2, bk_rb hM60 h6 hcb, (h6 _ hcb).1.1, (h6 _ hcb).1.2.1]
theorem p_17 {a1 a2 a3 : Int32} (hM : isLd LS rm) (hO : isMo LS rm) (hI : Inv K im) : PX LS rm K im 17 121 [.int a1, .int a2, .int a3] := by
  have hI' := Inv_k hI
  obtain ⟨M, W, C, N, ld, cl, sz, c, mb, h1, h2, h3, h4, h5, h6, h7, h8, h9⟩ := hI
  have hM60 := h1.1.2.2
  have hC := h1.2.2.1.2.2
  obtain ⟨up, tm, n, T, g, G, g1, g2, g3⟩ := h8
  have gC : ∀ o i, o < 3 → i < n o → g o i < C := fun o i ho hi => (g3.2.2.1 o i ho hi).2
  have lg : ∀ o i, o < 3 → i < n o → lgv im o i = g o i := fun o i ho hi => by unfold lgv; rw [((g1 o ho).2.2.2 i hi).1, tn_nI (by have := gC o i ho hi; omega)]
  have hx : ∀ o, o < 3 → ∀ i, i < n o → isN (im (3 * o + 332) i) 60 ∧ isN (im (2 * lgv im o i + 210) 1) 5 := fun o ho i hi => by
    have a := gC o i ho hi
    rw [lg o i ho hi, ((g1 o ho).2.2.2 i hi).1, (h6 _ a).1.1]
    exact ⟨isN_of (by omega) (by decide), isN_of (by have := (h6 _ a).1.2.2.2; omega) (by decide)⟩
  have hy : ∀ o, o < 3 → ∀ i, i < n o → im 399 (40 * o + i) = nI (g o i) ∧ g o i < 60 ∧ im 395 (g o i) = nI (sz (g o i)) ∧ sz (g o i) ≤ 4 := fun o ho i hi => by
    have a := gC o i ho hi
    exact ⟨((g1 o ho).2.2.2 i hi).2, by omega, (h6 _ a).1.2.1, (h6 _ a).1.2.2.2⟩
  have nx : ∀ o, o < 3 → im (3 * o + 331) 1 = nI (n o) ∧ n o ≤ 40 := fun o ho => ⟨(g1 o ho).2.2.1.1, (g1 o ho).2.2.1.2.2⟩
  have ny : ∀ o, o < 3 → im 400 o = nI (n o) ∧ n o ≤ 40 := fun o ho => ⟨(g1 o ho).2.2.1.2.1, (g1 o ho).2.2.1.2.2⟩
  refine x17 (n := n) hM nx hx (fun o b ho hb ea eb => ⟨_, rfl, y17 (n := n) (g := g) (sz := sz) hO ny hy (fun o' b' ho' hb' ea' eb' => ⟨?_, hI'⟩) (fun h => absurd ⟨ho, hb, ea, eb⟩ (h o b))⟩) (fun h => ⟨_, rfl, y17 (n := n) (g := g) (sz := sz) hO ny hy (fun o b ho hb ea eb => absurd ⟨ho, hb, ea, eb⟩ (h o b)) (fun _ => ⟨rfl, hI'⟩)⟩)
  have z1 := nI_inj (ea'.symm.trans ea) (by omega) (by omega)
  subst z1
  have n4 := (nx o' ho).2
  have z2 := nI_inj (eb'.symm.trans eb) (by omega) (by omega)
  subst z2
  have a := gC o' b' ho hb
  rw [lg o' b' ho hb, bk_rb hM60 h6 a, (g2 _ a).1, (g2 _ a).2.1]
theorem p_18 {a1 : Int32} (hM : isLd LS rm) (hO : isMo LS rm) (hI : Inv K im) : PX LS rm K im 18 122 [.int a1] := by
  have hI' := Inv_k hI
  obtain ⟨M, W, C, N, ld, cl, sz, c, mb, h1, h2, h3, h4, h5, h6, h7, h8, h9⟩ := hI
  obtain ⟨up, tm, n, T, g, G, g1, g2, g3⟩ := h8
  obtain ⟨pu, st, sv, hp⟩ := h9
  refine x18 hM (fun q hq ea => ⟨_, rfl, y18 hO (fun q' hq' ea' => ⟨?_, hI'⟩) (fun h => absurd ⟨hq, ea⟩ (h q))⟩) (fun h => ⟨_, rfl, y18 hO (fun q hq ea => absurd ⟨hq, ea⟩ (h q)) (fun _ => ⟨rfl, hI'⟩)⟩)
  have z1 := nI_inj (ea'.symm.trans ea) (by omega) (by omega)
  subst z1
  congr 2
  have t1 : ∀ i, i < 3 → (if im 397 i = 0 then (1 : Int32) <<< (nI i &&& 31) else 0) = (if im (3 * i + 330) 0 = 0 then (0 : Int32) else (1 : Int32) <<< (nI i &&& 31)) := by
    intro i hi
    rw [(g1 i hi).1.1, (g1 i hi).1.2]
    cases up i <;> rfl
  have t2 : ∀ i, i < 4 → (if im 402 i = 0 then (1 : Int32) <<< (nI (i + 3) &&& 31) else 0) = (if im (8 * i + 339) 0 = 0 then (0 : Int32) else (1 : Int32) <<< ((3 + nI i) &&& 31)) := by
    intro i hi
    rw [(hp i hi).1.1, (hp i hi).1.2, show 3 + nI i = nI (i + 3) from by rw [show (3 : Int32) = nI 3 from rfl, nI_add, Nat.add_comm]]
    cases pu i <;> rfl
  have nu : nuR im 7 = nuP im 4 := by
    simp only [nuR, nuP, nuO]
    have a0 := t1 0 (by decide)
    have a1 := t1 1 (by decide)
    have a2 := t1 2 (by decide)
    have b0 := t2 0 (by decide)
    have b1 := t2 1 (by decide)
    have b2 := t2 2 (by decide)
    have b3 := t2 3 (by decide)
    simp only [Nat.reduceAdd, Nat.reduceMul, Nat.reduceLT, Nat.reduceSub, if_true, if_false, Nat.zero_add, Nat.mul_zero, Nat.lt_irrefl] at a0 a1 a2 b0 b1 b2 b3 ⊢
    rw [← a0, ← a1, ← a2, ← b0, ← b1, ← b2, ← b3]
  unfold abR abF
  rw [nu]
  rcases (show q' < 3 ∨ (3 ≤ q' ∧ q' < 6) ∨ q' = 6 ∨ q' = 7 ∨ q' = 8 ∨ q' = 9 ∨ (10 ≤ q' ∧ q' < 14) ∨ (14 ≤ q' ∧ q' < 18) ∨ q' = 18 by omega) with z | z | z | z | z | z | z | z | z
  · rw [if_pos z, if_pos z, (g1 q' z).2.1.1, (g1 q' z).2.1.2.1]
  · rw [if_neg (by omega), if_pos z.2, if_neg (by omega), if_pos z.2, (g1 (q' - 3) (by omega)).2.2.1.1, (g1 (q' - 3) (by omega)).2.2.1.2.1]
  · subst z; exact h1.2.2.2.2.1
  · subst z; exact h1.2.2.2.1.2.1.trans h1.2.2.2.1.1.symm
  · subst z; exact h1.2.1.2.1.trans h1.2.1.1.symm
  · subst z; exact h1.1.2.1.trans h1.1.1.symm
  · rw [if_neg (by omega), if_neg (by omega), if_neg (by omega), if_neg (by omega), if_neg (by omega), if_neg (by omega), if_pos z.2, if_neg (by omega), if_neg (by omega), if_neg (by omega), if_neg (by omega), if_neg (by omega), if_neg (by omega), if_pos z.2, (hp (q' - 10) (by omega)).2.1.1, (hp (q' - 10) (by omega)).2.1.2.1]
  · rw [if_neg (by omega), if_neg (by omega), if_neg (by omega), if_neg (by omega), if_neg (by omega), if_neg (by omega), if_neg (by omega), if_pos z.2, if_neg (by omega), if_neg (by omega), if_neg (by omega), if_neg (by omega), if_neg (by omega), if_neg (by omega), if_neg (by omega), if_pos z.2, (hp (q' - 14) (by omega)).2.2.1.1, (hp (q' - 14) (by omega)).2.2.1.2.1]
  · subst z; rfl
end PAIRS
