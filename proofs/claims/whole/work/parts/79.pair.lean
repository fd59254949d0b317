section PAIRF
variable {LS : Nat} {rm : Nat → Nat → Option Nat} {K : Nat} {im : Nat → Nat → Int32}

theorem iPe_sz {N : Nat} {sz sz' c : Nat → Nat} (h : ∀ b, b < N → sz' (c b) = sz (c b)) (hi : iPe im N sz c) : iPe im N sz' c := by
  obtain ⟨pu, st, sv, hp⟩ := hi
  refine ⟨pu, st, sv, fun p hq => ?_⟩
  obtain ⟨a1, a2, a3, a4, a5, a6, a7⟩ := hp p hq
  refine ⟨a1, a2, a3, a4, a5, a6, fun b hb j hj => a7 b hb j ?_⟩
  rw [← h b (by split at hb <;> omega)]
  exact hj
def cuX (C L o c x : Nat) : Prop := c ≠ 4 ∧ c ≠ 393 ∧ c ≠ 2 * C + 211 ∧ (c ≠ 2 * C + 210 ∨ (x ≠ 1 ∧ x ≠ 2)) ∧ (c ≠ 1 ∨ (x ≠ 4 ∧ x ≠ 6)) ∧ (c ≠ 3 * o + 332 ∨ x ≠ L) ∧ (c ≠ 3 * o + 331 ∨ x ≠ 1) ∧ c ≠ 394 ∧ (c ≠ 395 ∨ x ≠ C) ∧ (c ≠ 396 ∨ x ≠ C) ∧ (c ≠ 399 ∨ x ≠ 40 * o + L) ∧ (c ≠ 400 ∨ x ≠ o) ∧ (c ≠ 371 ∨ (x ≠ 25 ∧ x ≠ 26))
theorem cu_f {W C L o c x k : Nat} (h : cuX C L o c x) : rc3 (ct3 im o C k W L) o C k W L c x = im c x := by
  obtain ⟨a1, a2, a3, a4, a5, a6, a7, a8, a9, a10, a11, a12, a13⟩ := h
  unfold rc3 rc2 ct3 ct2 ct1
  rw [u2_ne (a13.imp id (fun z => z.2)), u2_ne a12, u2_ne a11, u2_ne a10, u2_ne a9, u2_ne (a13.imp id (fun z => z.1)), ur_ne a2, ur_ne a8, u2_ne (a5.imp id (fun z => z.2)), u2_ne a7, u2_ne a6, u2_ne (a5.imp id (fun z => z.1)), ur_ne a1, u2_ne (a4.imp id (fun z => z.2)), u2_ne (a4.imp id (fun z => z.1)), ur_ne a3]
theorem p_7 {a1 : Int32} (hM : isLd LS rm) (hO : isMo LS rm) (hI : Inv K im) : PX LS rm K im 7 110 [.int a1] := by
  have hI' := Inv_k hI
  obtain ⟨M, W, C, N, ld, cl, sz, c, mb, h1, h2, h3, h4, h5, h6, h7, h8, h9⟩ := hI
  obtain ⟨m1, m2, hM60⟩ := h1.1
  have hC60 := h1.2.2.1.2.2
  have hN40 := h1.2.2.2.1.2.2
  obtain ⟨up, tm, n, T, g, G, g1, g2, g3⟩ := id h8
  obtain ⟨w1, w2, w3⟩ := h1.2.1
  obtain ⟨c1, c2, c3⟩ := h1.2.2.1
  have l34 := h1.2.2.2.2.1
  have hnx : ∀ o, o < 3 → im (3 * o + 331) 1 = nI (n o) ∧ n o ≤ 40 := fun o ho => ⟨(g1 o ho).2.2.1.1, (g1 o ho).2.2.1.2.2⟩
  have hny : ∀ o, o < 3 → im 400 o = nI (n o) ∧ n o ≤ 40 := fun o ho => ⟨(g1 o ho).2.2.1.2.1, (g1 o ho).2.2.1.2.2⟩
  refine x7 (w := W) (c := C) (n := n) hM w1 w3 c1 c3 hnx (fun o ho e hld hw hc hn => ⟨_, rfl, ?_⟩) (fun hk => ⟨_, rfl, y7 (w := W) (c := C) (n := n) hO w2 w3 c2 c3 hny (fun o ho e hld hw hc hn => absurd ⟨ho, e, by rw [l34] at hld; exact hld, hw, hc, hn⟩ (hk o)) (fun _ => ⟨rfl, hI'⟩)⟩)
  have Z : ∀ c x, 338 < c → c ≠ 371 ∨ x < 100 → ct3 im o C (min W 4) W (n o) c x = im c x := fun c x hx _ => by
    unfold ct3 ct2 ct1
    rw [u2_ne (by omega), u2_ne (by omega), u2_ne (by omega), u2_ne (by omega), ur_ne (by omega), u2_ne (by omega), u2_ne (by omega), ur_ne (by omega)]
  have q8 : ct3 im o C (min W 4) W (n o) 371 34 = nI o := by rw [Z _ _ (by omega) (by omega)]; exact l34.trans hld
  refine y7 (w := W) (c := C) (n := n) hO (by rw [Z _ _ (by omega) (by omega)]; exact w2) w3 (by rw [Z _ _ (by omega) (by omega)]; exact c2) c3 (fun q hq => by rw [Z _ _ (by omega) (by omega)]; exact hny q hq) (fun o' ho' e' _ _ _ _ => ⟨rfl, ?_⟩) (fun h => absurd ⟨ho, e, q8, hw, hc, hn⟩ (h o))
  have z1 := nI_inj (e'.symm.trans e) (by omega) (by omega)
  subst z1
  clear ho' e' q8
  have hlo : ld = o' := by
    rcases h1.2.2.2.2.2 with w | w
    · rw [w.1] at hld
      exact absurd hld.symm (nI_nm (by omega))
    · exact nI_inj (w.1.symm.trans hld) (by omega) (by omega)
  subst hlo
  obtain ⟨hul, htl⟩ := g3.2.1 ho
  have hk4 : min W 4 ≤ W ∧ min W 4 ≤ 4 ∧ 1 ≤ min W 4 := by omega
  generalize hkk : min W 4 = k at *
  have F1 : ∀ {c x}, cuX C (n ld) ld c x → rc3 (ct3 im ld C k W (n ld)) ld C k W (n ld) c x = im c x := fun h => cu_f h
  have F2 : ∀ x, rc3 (ct3 im ld C k W (n ld)) ld C k W (n ld) 394 x = if 4 * C ≤ x ∧ x < 4 * C + k then im 393 (x - 4 * C) else im 394 x := fun x => by
    unfold rc3 rc2
    rw [u2_ne (by omega), u2_ne (by omega), u2_ne (by omega), u2_ne (by omega), u2_ne (by omega), u2_ne (by omega), ur_ne (by omega), ur_eq]
    unfold rcA
    rw [Z _ _ (by omega) (by omega), Z _ _ (by omega) (by omega)]
  have F3 : ∀ x, x < W - k → rc3 (ct3 im ld C k W (n ld)) ld C k W (n ld) 393 x = im 393 (x + k) := fun x hx => by
    unfold rc3 rc2
    rw [u2_ne (by omega), u2_ne (by omega), u2_ne (by omega), u2_ne (by omega), u2_ne (by omega), u2_ne (by omega), ur_eq]
    unfold rcB
    rw [if_pos hx, Z _ _ (by omega) (by omega)]
  have F4 : ∀ x, x < W - k → rc3 (ct3 im ld C k W (n ld)) ld C k W (n ld) 4 x = im 4 (x + k) := fun x hx => by
    unfold rc3 rc2
    rw [u2_ne (by omega), u2_ne (by omega), u2_ne (by omega), u2_ne (by omega), u2_ne (by omega), u2_ne (by omega), ur_ne (by omega), ur_ne (by omega)]
    unfold ct3 ct2
    rw [u2_ne (by omega), u2_ne (by omega), u2_ne (by omega), u2_ne (by omega), ur_eq, pk_cpy_in (by omega) (by omega)]
    congr 1
    omega
  have F5 : ∀ x, x < k → rc3 (ct3 im ld C k W (n ld)) ld C k W (n ld) (2 * C + 211) x = im 4 x := fun x hx => by
    unfold rc3 rc2
    rw [u2_ne (by omega), u2_ne (by omega), u2_ne (by omega), u2_ne (by omega), u2_ne (by omega), u2_ne (by omega), ur_ne (by omega), ur_ne (by omega)]
    unfold ct3 ct2 ct1
    rw [u2_ne (by omega), u2_ne (by omega), u2_ne (by omega), u2_ne (by omega), ur_ne (by omega), u2_ne (by omega), u2_ne (by omega), ur_eq, pk_cpy_in (by omega) (by omega)]
    congr 1
    omega
  have F6 : rc3 (ct3 im ld C k W (n ld)) ld C k W (n ld) (2 * C + 210) 1 = nI k := by
    unfold rc3 rc2
    rw [u2_ne (by omega), u2_ne (by omega), u2_ne (by omega), u2_ne (by omega), u2_ne (by omega), u2_ne (by omega), ur_ne (by omega), ur_ne (by omega)]
    unfold ct3 ct2 ct1
    rw [u2_ne (by omega), u2_ne (by omega), u2_ne (by omega), u2_ne (by omega), ur_ne (by omega), u2_ne (by omega), u2_eq]
  have F7 : rc3 (ct3 im ld C k W (n ld)) ld C k W (n ld) (2 * C + 210) 2 = im (3 * ld + 330) 1 := by
    unfold rc3 rc2
    rw [u2_ne (by omega), u2_ne (by omega), u2_ne (by omega), u2_ne (by omega), u2_ne (by omega), u2_ne (by omega), ur_ne (by omega), ur_ne (by omega)]
    unfold ct3 ct2 ct1
    rw [u2_ne (by omega), u2_ne (by omega), u2_ne (by omega), u2_ne (by omega), ur_ne (by omega), u2_eq]
  have F8 : rc3 (ct3 im ld C k W (n ld)) ld C k W (n ld) 395 C = nI k := by
    unfold rc3
    rw [u2_ne (by omega), u2_ne (by omega), u2_ne (by omega), u2_ne (by omega), u2_eq]
  have F9 : rc3 (ct3 im ld C k W (n ld)) ld C k W (n ld) 396 C = im 398 ld := by
    unfold rc3
    rw [u2_ne (by omega), u2_ne (by omega), u2_ne (by omega), u2_eq, Z _ _ (by omega) (by omega)]
  have F10 : rc3 (ct3 im ld C k W (n ld)) ld C k W (n ld) (3 * ld + 332) (n ld) = nI C := by
    unfold rc3 rc2
    rw [u2_ne (by omega), u2_ne (by omega), u2_ne (by omega), u2_ne (by omega), u2_ne (by omega), u2_ne (by omega), ur_ne (by omega), ur_ne (by omega)]
    unfold ct3
    rw [u2_ne (by omega), u2_ne (by omega), u2_eq]
  have F11 : rc3 (ct3 im ld C k W (n ld)) ld C k W (n ld) (3 * ld + 331) 1 = nI (n ld + 1) := by
    unfold rc3 rc2
    rw [u2_ne (by omega), u2_ne (by omega), u2_ne (by omega), u2_ne (by omega), u2_ne (by omega), u2_ne (by omega), ur_ne (by omega), ur_ne (by omega)]
    unfold ct3
    rw [u2_ne (by omega), u2_eq]
  have F12 : rc3 (ct3 im ld C k W (n ld)) ld C k W (n ld) 399 (40 * ld + n ld) = nI C := by
    unfold rc3
    rw [u2_ne (by omega), u2_ne (by omega), u2_eq]
  have F13 : rc3 (ct3 im ld C k W (n ld)) ld C k W (n ld) 400 ld = nI (n ld + 1) := by
    unfold rc3
    rw [u2_ne (by omega), u2_eq]
  have F14 : rc3 (ct3 im ld C k W (n ld)) ld C k W (n ld) 1 4 = nI (W - k) := by
    unfold rc3 rc2
    rw [u2_ne (by omega), u2_ne (by omega), u2_ne (by omega), u2_ne (by omega), u2_ne (by omega), u2_ne (by omega), ur_ne (by omega), ur_ne (by omega)]
    unfold ct3 ct2
    rw [u2_ne (by omega), u2_ne (by omega), u2_ne (by omega), u2_eq]
  have F15 : rc3 (ct3 im ld C k W (n ld)) ld C k W (n ld) 1 6 = nI (C + 1) := by
    unfold rc3 rc2
    rw [u2_ne (by omega), u2_ne (by omega), u2_ne (by omega), u2_ne (by omega), u2_ne (by omega), u2_ne (by omega), ur_ne (by omega), ur_ne (by omega)]
    unfold ct3
    rw [u2_eq]
  have F16 : rc3 (ct3 im ld C k W (n ld)) ld C k W (n ld) 371 25 = nI (W - k) := by
    unfold rc3
    rw [u2_ne (by omega), u2_ne (by omega), u2_ne (by omega), u2_ne (by omega), u2_ne (by omega), u2_eq]
  have F17 : rc3 (ct3 im ld C k W (n ld)) ld C k W (n ld) 371 26 = nI (C + 1) := by
    unfold rc3
    rw [u2_eq]
  have hS : chS im (rc3 (ct3 im ld C k W (n ld)) ld C k W (n ld)) N := chS_of hM60 hC60 h6 h7 h4 (fun _ => ruS_f (fun c x hx => by unfold xRu at hx; exact F1 ⟨by omega, by omega, by omega, by omega, by omega, by omega, by omega, by omega, by omega, by omega, by omega, by omega, by omega⟩)) (fun b hb => F1 ⟨by omega, by omega, by omega, by omega, by omega, by omega, by omega, by omega, by omega, by omega, by omega, by omega, by omega⟩) (fun b hb => ⟨F1 ⟨by omega, by omega, by omega, by omega, by omega, by omega, by omega, by omega, by omega, by omega, by omega, by omega, by omega⟩, fun i hi => by rw [F2, if_neg (by omega)]⟩) (fun t ht _ => ⟨F1 ⟨by omega, by omega, by omega, by omega, by omega, by omega, by omega, by omega, by omega, by omega, by omega, by omega, by omega⟩, F1 ⟨by omega, by omega, by omega, by omega, by omega, by omega, by omega, by omega, by omega, by omega, by omega, by omega, by omega⟩, tE_f (by omega) (fun c x y1 y2 y3 => F1 ⟨by omega, by omega, by omega, by omega, by omega, by omega, by omega, by omega, by omega, by omega, by omega, by omega, by omega⟩)⟩)
  generalize rc3 (ct3 im ld C k W (n ld)) ld C k W (n ld) = m at *
  clear Z
  refine ⟨M, W - k, C + 1, N, ld, cl, (fun b => if b = C then k else sz b), c, (fun b i => if b = C then tn (im 4 i) else mb b i), ?_, iCd_f (fun c x hx => by unfold xCd at hx; exact F1 ⟨by omega, by omega, by omega, by omega, by omega, by omega, by omega, by omega, by omega, by omega, by omega, by omega, by omega⟩) h2, iRu_f (fun c x hx => by unfold xRu at hx; exact F1 ⟨by omega, by omega, by omega, by omega, by omega, by omega, by omega, by omega, by omega, by omega, by omega, by omega, by omega⟩) h3, iTx_f (fun c x hx => by unfold xTx at hx; exact F1 ⟨by omega, by omega, by omega, by omega, by omega, by omega, by omega, by omega, by omega, by omega, by omega, by omega, by omega⟩) h4, ?_, ?_, ?_, ?_, ?_⟩
  · obtain ⟨k1, k2, k3, k4, k5, k6⟩ := h1
    refine ⟨⟨?_, ?_, hM60⟩, ⟨F14, F16, by omega⟩, ⟨F15, F17, by omega⟩, ⟨?_, ?_, hN40⟩, ?_, Or.inr ⟨?_, ho⟩⟩
    · rw [F1 ⟨by omega, by omega, by omega, by omega, by omega, by omega, by omega, by omega, by omega, by omega, by omega, by omega, by omega⟩]; exact k1.1
    · rw [F1 ⟨by omega, by omega, by omega, by omega, by omega, by omega, by omega, by omega, by omega, by omega, by omega, by omega, by omega⟩]; exact k1.2.1
    · rw [F1 ⟨by omega, by omega, by omega, by omega, by omega, by omega, by omega, by omega, by omega, by omega, by omega, by omega, by omega⟩]; exact k4.1
    · rw [F1 ⟨by omega, by omega, by omega, by omega, by omega, by omega, by omega, by omega, by omega, by omega, by omega, by omega, by omega⟩]; exact k4.2.1
    · rw [F1 ⟨by omega, by omega, by omega, by omega, by omega, by omega, by omega, by omega, by omega, by omega, by omega, by omega, by omega⟩, F1 ⟨by omega, by omega, by omega, by omega, by omega, by omega, by omega, by omega, by omega, by omega, by omega, by omega, by omega⟩]; exact k5
    · rw [F1 ⟨by omega, by omega, by omega, by omega, by omega, by omega, by omega, by omega, by omega, by omega, by omega, by omega, by omega⟩]; exact hld
  · intro i hi
    rw [F3 i hi, F4 i hi]
    exact h5 (i + k) (by omega)
  · intro b hb
    by_cases z : b = C
    · subst z
      simp only [if_true]
      refine ⟨⟨F6, F8, by omega, by omega⟩, fun i hi => ?_⟩
      obtain ⟨j1, j2, j3⟩ := h5 i (by omega)
      rw [F5 i hi, F2, if_pos (by omega), show 4 * b + i - 4 * b = i by omega, j1]
      exact ⟨j2.1, j2.1, j2.2, j3⟩
    · simp only [if_neg z]
      obtain ⟨j1, j2⟩ := h6 b (by omega)
      refine ⟨by rw [F1 ⟨by omega, by omega, by omega, by omega, by omega, by omega, by omega, by omega, by omega, by omega, by omega, by omega, by omega⟩, F1 ⟨by omega, by omega, by omega, by omega, by omega, by omega, by omega, by omega, by omega, by omega, by omega, by omega, by omega⟩]; exact j1, fun i hi => ?_⟩
      rw [F1 ⟨by omega, by omega, by omega, by omega, by omega, by omega, by omega, by omega, by omega, by omega, by omega, by omega, by omega⟩, F2, if_neg (by omega)]
      exact j2 i hi
  · intro i hi
    rw [F1 ⟨by omega, by omega, by omega, by omega, by omega, by omega, by omega, by omega, by omega, by omega, by omega, by omega, by omega⟩, F1 ⟨by omega, by omega, by omega, by omega, by omega, by omega, by omega, by omega, by omega, by omega, by omega, by omega, by omega⟩]
    exact ⟨(h7 i hi).1, (h7 i hi).2.1, by have := (h7 i hi).2.2; omega⟩
  · refine ⟨up, tm, (fun q => if q = ld then n ld + 1 else n q), (fun b => if b = C then G else T b), (fun q i => if q = ld ∧ i = n ld then C else g q i), G, fun q hq => ?_, fun b hb => ?_, ag_cut g3 ho (if_pos rfl) (fun q _ hne => if_neg hne) (if_pos ⟨rfl, rfl⟩) (fun q i _ hi => if_neg (fun z => by rw [z.1, z.2] at hi; omega)) (if_pos rfl) (fun x hx => if_neg (by omega)) (ag_cb g3)⟩
    · obtain ⟨q1, q2, q3, q4⟩ := g1 q hq
      refine ⟨?_, ?_, ?_, fun i hi => ?_⟩
      · rw [F1 ⟨by omega, by omega, by omega, by omega, by omega, by omega, by omega, by omega, by omega, by omega, by omega, by omega, by omega⟩, F1 ⟨by omega, by omega, by omega, by omega, by omega, by omega, by omega, by omega, by omega, by omega, by omega, by omega, by omega⟩]; exact q1
      · rw [F1 ⟨by omega, by omega, by omega, by omega, by omega, by omega, by omega, by omega, by omega, by omega, by omega, by omega, by omega⟩, F1 ⟨by omega, by omega, by omega, by omega, by omega, by omega, by omega, by omega, by omega, by omega, by omega, by omega, by omega⟩]; exact ⟨q2.1, q2.2.1, by omega⟩
      · by_cases z : q = ld
        · subst z
          simp only [if_true]
          exact ⟨F11, F13, by omega⟩
        · simp only [if_neg z]
          rw [F1 ⟨by omega, by omega, by omega, by omega, by omega, by omega, by omega, by omega, by omega, by omega, by omega, by omega, by omega⟩, F1 ⟨by omega, by omega, by omega, by omega, by omega, by omega, by omega, by omega, by omega, by omega, by omega, by omega, by omega⟩]; exact q3
      · by_cases z : q = ld ∧ i = n ld
        · obtain ⟨rfl, rfl⟩ := z
          simp only [and_self, if_true]
          exact ⟨F10, F12⟩
        · simp only [if_neg z]
          have hi' : i < n q := by
            by_cases w : q = ld
            · subst w; simp only [if_true] at hi; omega
            · simp only [if_neg w] at hi; exact hi
          have n40 := (hnx q hq).2
          rw [F1 ⟨by omega, by omega, by omega, by omega, by omega, by omega, by omega, by omega, by omega, by omega, by omega, by omega, by omega⟩, F1 ⟨by omega, by omega, by omega, by omega, by omega, by omega, by omega, by omega, by omega, by omega, by omega, by omega, by omega⟩]
          exact q4 i hi'
    · have htK := (g1 ld ho).2.1
      by_cases z : b = C
      · subst z
        simp only [if_true]
        rw [F7, F9, htK.1, htK.2.1, htl]
        exact ⟨rfl, rfl, by omega⟩
      · simp only [if_neg z]
        rw [F1 ⟨by omega, by omega, by omega, by omega, by omega, by omega, by omega, by omega, by omega, by omega, by omega, by omega, by omega⟩, F1 ⟨by omega, by omega, by omega, by omega, by omega, by omega, by omega, by omega, by omega, by omega, by omega, by omega, by omega⟩]; exact ⟨(g2 b (by omega)).1, (g2 b (by omega)).2.1, by have := (g2 b (by omega)).2.2; omega⟩
  · exact iPe_sz (fun b hb => if_neg (by have := (h7 b hb).2.2; omega)) (iPe_f (fun c x hx => by unfold xPe at hx; exact F1 ⟨by omega, by omega, by omega, by omega, by omega, by omega, by omega, by omega, by omega, by omega, by omega, by omega, by omega⟩) hS h9)
end PAIRF
