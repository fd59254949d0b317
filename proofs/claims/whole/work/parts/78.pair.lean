section PAIRE
variable {LS : Nat} {rm : Nat → Nat → Option Nat} {K : Nat} {im : Nat → Nat → Int32}

theorem cntB_c {p q : Nat → Bool} : ∀ n, (∀ k, k < n → p k = q k) → cntB p n = cntB q n := by
  intro n
  induction n with
  | zero => intro _; rfl
  | succ n ih => intro h; show cntB p n + (if p n = true then 1 else 0) = cntB q n + (if q n = true then 1 else 0); rw [ih (fun k hk => h k (by omega)), h n (by omega)]
theorem gtN_c {u v : Nat → Bool} {t : Nat → Nat} : ∀ n, (∀ k, k < n → u k = v k) → gtN u t n = gtN v t n := by
  intro n
  induction n with
  | zero => intro _; rfl
  | succ n ih => intro h; show (if u n = true then max (gtN u t n) (t n) else gtN u t n) = (if v n = true then max (gtN v t n) (t n) else gtN v t n); rw [ih (fun k hk => h k (by omega)), h n (by omega)]
theorem gtN_ge {u : Nat → Bool} {t : Nat → Nat} {i : Nat} (hu : u i = true) : ∀ n, i < n → t i ≤ gtN u t n := by
  intro n
  induction n with
  | zero => intro h; omega
  | succ n ih =>
    intro h
    show t i ≤ (if u n = true then max (gtN u t n) (t n) else gtN u t n)
    by_cases z : i = n
    · subst z; rw [if_pos hu]; omega
    · have := ih (by omega)
      split <;> omega
theorem cnt_two {p : Nat → Bool} {o : Nat} (ho : o < 3) (h : 2 ≤ cntB p 3) : ∃ s, s < 3 ∧ s ≠ o ∧ p s = true := by
  simp only [cntB] at h
  cases h0 : p 0 <;> cases h1 : p 1 <;> cases h2 : p 2 <;> simp [h0, h1, h2] at h <;> rcases (show o = 0 ∨ o = 1 ∨ o = 2 by omega) with rfl | rfl | rfl <;> first | exact ⟨0, by decide, by decide, h0⟩ | exact ⟨1, by decide, by decide, h1⟩ | exact ⟨2, by decide, by decide, h2⟩
theorem elN_m {v : Int32} {c k : Nat} (h : c % 3 ≠ 0) : ∀ i, elN im v i c k = im c k := by
  intro i
  induction i with
  | zero => rfl
  | succ i ih =>
    show (if im (3 * i + 330) 0 = 0 then elN im v i else en_u2 (elN im v i) (3 * i + 330) 1 v) c k = im c k
    split
    · exact ih
    · rw [u2_ne (by omega)]; exact ih
theorem elN_b {v : Int32} {q : Nat} : ∀ i, i ≤ q → elN im v i (3 * q + 330) 1 = im (3 * q + 330) 1 := by
  intro i
  induction i with
  | zero => intro _; rfl
  | succ i ih =>
    intro hi
    show (if im (3 * i + 330) 0 = 0 then elN im v i else en_u2 (elN im v i) (3 * i + 330) 1 v) (3 * q + 330) 1 = im (3 * q + 330) 1
    split
    · exact ih (by omega)
    · rw [u2_ne (by omega)]; exact ih (by omega)
theorem elN_v {v : Int32} {q : Nat} : ∀ i, q < i → elN im v i (3 * q + 330) 1 = if im (3 * q + 330) 0 = 0 then im (3 * q + 330) 1 else v := by
  intro i
  induction i with
  | zero => intro h; omega
  | succ i ih =>
    intro h
    show (if im (3 * i + 330) 0 = 0 then elN im v i else en_u2 (elN im v i) (3 * i + 330) 1 v) (3 * q + 330) 1 = _
    by_cases z : q = i
    · subst z
      by_cases w : im (3 * q + 330) 0 = 0
      · rw [if_pos w, if_pos w]; exact elN_b q (Nat.le_refl _)
      · rw [if_neg w, if_neg w, u2_eq]
    · rw [← ih (by omega)]
      split
      · rfl
      · rw [u2_ne (by omega)]
theorem erN_v {v : Int32} {q : Nat} : ∀ i, q < i → erN im v i 398 q = if im 397 q = 0 then v else im 398 q := by
  intro i
  induction i with
  | zero => intro h; omega
  | succ i ih =>
    intro h
    show (if im 397 i = 0 then en_u2 (erN im v i) 398 i v else en_u2 (erN im v i) 398 i (im 398 i)) 398 q = _
    by_cases z : q = i
    · subst z
      by_cases w : im 397 q = 0
      · rw [if_pos w, if_pos w, u2_eq]
      · rw [if_neg w, if_neg w, u2_eq]
    · rw [← ih (by omega)]
      split
      · rw [u2_ne (by omega)]
      · rw [u2_ne (by omega)]
theorem p_6 {a1 : Int32} (hK : K < 90000) (hM : isLd LS rm) (hO : isMo LS rm) (hI : Inv K im) : PX LS rm K im 6 109 [.int a1] := by
  have hI' := Inv_k hI
  obtain ⟨M, W, C, N, ld, cl, sz, c, mb, h1, h2, h3, h4, h5, h6, h7, h8, h9⟩ := hI
  obtain ⟨m1, m2, hM60⟩ := h1.1
  have hC60 := h1.2.2.1.2.2
  have hN40 := h1.2.2.2.1.2.2
  obtain ⟨up, tm, n, T, g, G, g1, g2, g3⟩ := id h8
  have hgC : ∀ i, i < 3 → n i ≠ 0 → g i (n i - 1) < C := fun i hi h => (g3.2.2.1 i (n i - 1) hi (by omega)).2
  have hlt : ∀ i, i < 3 → ag_lt n g T i < 100000 := fun i hi => by
    unfold ag_lt
    split
    · omega
    · have := (g2 _ (hgC i hi (by assumption))).2.2; omega
  have hTx : ∀ i, i < 3 → isLT im (3 * i + 331) (n i) (ag_lt n g T i) := fun i hi => by
    refine ⟨(g1 i hi).2.2.1.1, (g1 i hi).2.2.1.2.2, hlt i hi, ?_⟩
    unfold ag_lt
    by_cases z : n i = 0
    · exact Or.inl ⟨z, if_pos z⟩
    · rw [if_neg z]
      have hc := hgC i hi z
      exact Or.inr ⟨by omega, g i (n i - 1), by omega, ((g1 i hi).2.2.2 _ (by omega)).1, (g2 _ hc).1⟩
  have hTy : ∀ m : Nat → Nat → Int32, m 400 = im 400 → m 399 = im 399 → m 396 = im 396 → ∀ i, i < 3 → isLR m i (n i) (ag_lt n g T i) := fun m e1 e2 e3 i hi => by
    unfold isLR
    rw [e1, e2, e3]
    refine ⟨(g1 i hi).2.2.1.2.1, (g1 i hi).2.2.1.2.2, hlt i hi, ?_⟩
    unfold ag_lt
    by_cases z : n i = 0
    · exact Or.inl ⟨z, if_pos z⟩
    · rw [if_neg z]
      have hc := hgC i hi z
      exact Or.inr ⟨by omega, g i (n i - 1), by omega, ((g1 i hi).2.2.2 _ (by omega)).2, (g2 _ hc).2.1⟩
  have hux : ∀ i, i < 3 → upB im i = up i := fun i hi => by unfold upB; rw [(g1 i hi).1.1]; cases up i <;> decide
  have huy : ∀ m : Nat → Nat → Int32, m 397 = im 397 → ∀ i, i < 3 → upR m i = up i := fun m e i hi => by unfold upR; rw [e, (g1 i hi).1.2]; cases up i <;> decide
  have hsu : ∀ m : Nat → Nat → Int32, m 397 = im 397 → ∀ o, cntB (supR m n (ag_lt n g T) o) 3 = cntB (sup im n (ag_lt n g T) o) 3 := fun m e o => cntB_c 3 (fun i hi => by
    have e1 := hux i hi
    have e2 := huy m e i hi
    unfold upB at e1
    unfold upR at e2
    unfold sup supR
    rw [e1, e2])
  have hmx : ∀ i, i < 3 → im (3 * i + 330) 1 = nI (tm i) ∧ tm i ≤ 100000 := fun i hi => ⟨(g1 i hi).2.1.1, by have := (g1 i hi).2.1.2.2; omega⟩
  have hmy : ∀ m : Nat → Nat → Int32, m 398 = im 398 → ∀ i, i < 3 → m 398 i = nI (tm i) ∧ tm i ≤ 100000 := fun m e i hi => ⟨by rw [e]; exact (g1 i hi).2.1.2.1, by have := (g1 i hi).2.1.2.2; omega⟩
  have hob : ∀ o, o < 3 → (im (3 * o + 330) 0 ≠ 0 ↔ im 397 o = 0) := fun o ho => by rw [(g1 o ho).1.1, (g1 o ho).1.2]; cases up o <;> decide
  refine x6 (n := n) (t := ag_lt n g T) (tm := tm) hM hTx hmx (fun o ho e hu hs => ⟨_, rfl, ?_⟩) (fun hk => ⟨_, rfl, y6 (n := n) (t := ag_lt n g T) (tm := tm) hO (hTy im rfl rfl rfl) (hmy im rfl) (fun o ho e hu hs => absurd ⟨ho, e, (hob o ho).mpr hu, by rw [hsu im rfl] at hs; exact hs⟩ (hk o)) (fun _ => ⟨rfl, hI'⟩)⟩)
  have huo : up o = true := by rw [(g1 o ho).1.1] at hu; cases w : up o with | true => rfl | false => rw [w] at hu; exact absurd rfl hu
  obtain ⟨s, hs3, hso, hsup⟩ := cnt_two ho hs
  have hsu2 : up s = true ∧ ag_nn n g T s o := by
    have e1 := hux s hs3
    unfold upB at e1
    unfold sup at hsup
    rw [e1, Bool.and_eq_true, Bool.not_eq_true', decide_eq_false_iff_not] at hsup
    exact hsup
  have hG : gtN up tm 3 = G := by
    have l1 : gtN up tm 3 ≤ G := gtN_le 3 (fun i hi => g3.1.2 i hi)
    rcases ag_top g3 ho hs3 (fun z => hso z.symm) with w | w
    · have := gtN_ge (t := tm) huo 3 ho; omega
    · have := gtN_ge (t := tm) hsu2.1 3 hs3; omega
  have hGK : G ≤ K := by
    obtain ⟨a, b, ha, -, -, e1, -⟩ := g3.1.1
    have := (g1 a ha).2.1.2.2
    omega
  have ex1 : gtN (upB im) tm 3 = G := (gtN_c 3 hux).trans hG
  rw [ex1]
  have K1 : ∀ c, 338 < c → en_u2 (elN im (nI (G + 1)) 3) 1 8 (nI o) c = im c := fun c hc => by funext x; rw [u2_ne (by omega), elN_k (by omega) 3 (by omega)]
  refine y6 (n := n) (t := ag_lt n g T) (tm := tm) hO (hTy _ (K1 _ (by decide)) (K1 _ (by decide)) (K1 _ (by decide))) (hmy _ (K1 _ (by decide))) (fun o' ho' e' hu' hs' => ?_) (fun h => absurd ⟨ho, e, by rw [K1 _ (by decide)]; exact (hob o ho).mp hu, by rw [hsu _ (K1 _ (by decide))]; exact hs⟩ (h o))
  have z1 := nI_inj (e'.symm.trans e) (by omega) (by omega)
  subst z1
  clear ho' e' hu' hs'
  have ey1 : gtN (upR (en_u2 (elN im (nI (G + 1)) 3) 1 8 (nI o'))) tm 3 = G := (gtN_c 3 (huy _ (K1 _ (by decide)))).trans hG
  rw [ey1]
  refine ⟨rfl, ?_⟩
  have F1 : ∀ c x, (x ≠ 1 ∨ c < 330 ∨ 338 < c) → (c ≠ 1 ∨ x ≠ 8) → (c ≠ 371 ∨ x ≠ 34) → c ≠ 398 → (erN (en_u2 (en_u2 (elN im (nI (G + 1)) 3) 1 8 (nI o')) 371 34 (nI o')) (nI (G + 1)) 3) c x = im c x := fun c x h1 h2 h3 h4 => by rw [erN_c h4, u2_ne h3, u2_ne h2, elN_k h1 3 (by omega)]
  refine ⟨M, W, C, N, o', cl, sz, c, mb, ?_, iCd_f (fun c x hx => by unfold xCd at hx; exact F1 c x (by omega) (by omega) (by omega) (by omega)) h2, iRu_f (fun c x hx => by unfold xRu at hx; exact F1 c x (by omega) (by omega) (by omega) (by omega)) h3, iTx_f (fun c x hx => by unfold xTx at hx; exact F1 c x (by omega) (by omega) (by omega) (by omega)) h4, iWt_f (fun c x hx => by unfold xWt at hx; exact F1 c x (by omega) (by omega) (by omega) (by omega)) h5, iBk_f hC60 (fun c x hx => by unfold xBk at hx; exact F1 c x (by omega) (by omega) (by omega) (by omega)) h6, iCh_f (fun c x hx => by unfold xCh at hx; exact F1 c x (by omega) (by omega) (by omega) (by omega)) h7, ?_, iPe_f (fun c x hx => by unfold xPe at hx; exact F1 c x (by omega) (by omega) (by omega) (by omega)) (chS_fr hM60 hC60 h6 h7 h4 (fun c x hx => by unfold xTx at hx; exact F1 c x (by omega) (by omega) (by omega) (by omega))) h9⟩
  · obtain ⟨k1, k2, k3, k4, k5, k6⟩ := h1
    refine ⟨?_, ?_, ?_, ?_, ?_, Or.inr ⟨?_, ho⟩⟩
    · rw [F1 1 2 (by omega) (by omega) (by omega) (by omega), F1 371 9 (by omega) (by omega) (by omega) (by omega)]; exact k1
    · rw [F1 1 4 (by omega) (by omega) (by omega) (by omega), F1 371 25 (by omega) (by omega) (by omega) (by omega)]; exact k2
    · rw [F1 1 6 (by omega) (by omega) (by omega) (by omega), F1 371 26 (by omega) (by omega) (by omega) (by omega)]; exact k3
    · rw [F1 7 1 (by omega) (by omega) (by omega) (by omega), F1 371 36 (by omega) (by omega) (by omega) (by omega)]; exact k4
    · rw [erN_c (by omega), u2_eq, erN_c (by omega), u2_ne (by omega), u2_eq]
    · rw [erN_c (by omega), u2_ne (by omega), u2_eq]
  · refine ⟨up, fun q => if up q = true then G + 1 else tm q, n, T, g, G + 1, fun q hq => ?_, fun b hb => ?_, ag_elect g3 ho hs3 (fun z => hso z.symm) huo hsu2.1 hsu2.2 (fun q _ => rfl)⟩
    · obtain ⟨q1, q2, q3, q4⟩ := g1 q hq
      refine ⟨?_, ?_, ?_, fun i hi => ?_⟩
      · rw [F1 _ _ (by omega) (by omega) (by omega) (by omega), F1 _ _ (by omega) (by omega) (by omega) (by omega)]; exact q1
      · have c1 : (erN (en_u2 (en_u2 (elN im (nI (G + 1)) 3) 1 8 (nI o')) 371 34 (nI o')) (nI (G + 1)) 3) (3 * q + 330) 1 = if up q = true then nI (G + 1) else nI (tm q) := by
          rw [erN_c (by omega), u2_ne (by omega), u2_ne (by omega), elN_v 3 hq, q1.1, q2.1]
          cases up q <;> rfl
        have c2 : (erN (en_u2 (en_u2 (elN im (nI (G + 1)) 3) 1 8 (nI o')) 371 34 (nI o')) (nI (G + 1)) 3) 398 q = if up q = true then nI (G + 1) else nI (tm q) := by
          rw [erN_v 3 hq, u2_ne (by omega), u2_ne (by omega), u2_ne (by omega), u2_ne (by omega), elN_k (by omega) 3 (by omega), elN_k (by omega) 3 (by omega), q1.2, q2.2.1]
          cases up q <;> rfl
        rw [c1, c2]
        show (if up q = true then nI (G + 1) else nI (tm q)) = nI (if up q = true then G + 1 else tm q) ∧ (if up q = true then nI (G + 1) else nI (tm q)) = nI (if up q = true then G + 1 else tm q) ∧ (if up q = true then G + 1 else tm q) ≤ K + 1
        split
        · exact ⟨rfl, rfl, by omega⟩
        · exact ⟨rfl, rfl, by omega⟩
      · rw [erN_c (by omega), u2_ne (by omega), u2_ne (by omega), elN_m (by omega), F1 _ _ (by omega) (by omega) (by omega) (by omega)]; exact q3
      · rw [erN_c (by omega), u2_ne (by omega), u2_ne (by omega), elN_m (by omega), F1 _ _ (by omega) (by omega) (by omega) (by omega)]; exact q4 i hi
    · rw [F1 _ _ (by omega) (by omega) (by omega) (by omega), F1 _ _ (by omega) (by omega) (by omega) (by omega)]; exact ⟨(g2 b hb).1, (g2 b hb).2.1, by have := (g2 b hb).2.2; omega⟩
end PAIRE
