section PAIRG
variable {LS : Nat} {rm : Nat → Nat → Option Nat} {K : Nat} {im : Nat → Nat → Int32}

theorem iPe_N {N N' : Nat} {sz c c' : Nat → Nat} (hN : N ≤ N') (h : ∀ b, b < N → c' b = c b) (hi : iPe im N sz c) : iPe im N' sz c' := by
  obtain ⟨pu, st, sv, hp⟩ := hi
  refine ⟨pu, st, sv, fun p hq => ?_⟩
  obtain ⟨a1, a2, a3, a4, a5, a6, a7⟩ := hp p hq
  refine ⟨a1, ⟨a2.1, a2.2.1, by omega⟩, a3, a4, a5, a6, fun b hb j hj => a7 b hb j ?_⟩
  rw [← h b (by split at hb <;> omega)]
  exact hj
theorem cq3_o {a N V c x : Nat} (h1 : c ≠ 401) (h2 : c ≠ 371 ∨ x ≠ 36) : cq3 im a N V c x = im c x := by
  unfold cq3 rpK
  split
  · rw [u2_ne h2, ur_ne h1]
  · rfl
theorem cq2_o {a b l c x : Nat} {mv : Prop} [Decidable mv] (h1 : c ≠ 398) (h2 : c ≠ 399) (h3 : c ≠ 400) : cq2 im a b l mv c x = im c x := by
  unfold cq2 cq1
  split
  · rw [u2_ne (by omega), u2_ne (by omega), u2_ne (by omega)]
  · rw [u2_ne (by omega)]
theorem cp3_o {a N V c x : Nat} (h1 : c ≠ 8) (h2 : c ≠ 7 ∨ x ≠ 1) : cp3 im a N V c x = im c x := by
  unfold cp3
  split
  · rw [u2_ne h2, ur_ne h1]
  · rfl
theorem cp2_o {a b l c x : Nat} {mv : Prop} [Decidable mv] (h : c < 330 ∨ 338 < c ∨ x = 0 ∧ c % 3 = 0) (hb : b < 3) : cp2 im a b l mv c x = im c x := by
  unfold cp2 cp1
  split
  · rw [u2_ne (by omega), u2_ne (by omega), u2_ne (by omega), u2_ne (by omega)]
  · rw [u2_ne (by omega)]
theorem ck_f {n tm : Nat → Nat} {g : Nat → Nat → Nat} {a b l : Nat} (ha : a < 3) (hb : b < 3) (hla : l ≤ n a) (hlb : l ≤ n b) (q1 : ∀ q, q < 3 → im (3 * q + 330) 1 = nI (tm q)) (q2 : ∀ q, q < 3 → im (3 * q + 331) 1 = nI (n q)) (q3 : ∀ q, q < 3 → ∀ i, i < n q → im (3 * q + 332) i = nI (g q i)) : ∀ q, q < 3 → cp2 im a b l (l < n a) (3 * q + 330) 1 = nI (if q = b then tm a else tm q) ∧ cp2 im a b l (l < n a) (3 * q + 331) 1 = nI (cpn n b l (l < n a) q) ∧ ∀ i, i < cpn n b l (l < n a) q → cp2 im a b l (l < n a) (3 * q + 332) i = nI (if q = b ∧ i = l ∧ l < n a then g a l else g q i) := by
  intro q hq
  unfold cp2 cp1 cpn
  by_cases mv : l < n a
  · simp only [mv, and_true, if_true]
    refine ⟨?_, ?_, fun i hi => ?_⟩
    · by_cases z : q = b
      · subst z; rw [u2_eq, q1 a ha, if_pos rfl]
      · rw [u2_ne (by omega), u2_ne (by omega), u2_ne (by omega), u2_ne (by omega), if_neg z]; exact q1 q hq
    · by_cases z : q = b
      · subst z; rw [u2_ne (by omega), u2_eq, if_pos rfl]
      · rw [u2_ne (by omega), u2_ne (by omega), u2_ne (by omega), u2_ne (by omega), if_neg z]; exact q2 q hq
    · by_cases z : q = b ∧ i = l
      · obtain ⟨rfl, rfl⟩ := z
        rw [u2_ne (by omega), u2_ne (by omega), u2_eq, if_pos ⟨rfl, rfl⟩]; exact q3 a ha i mv
      · rw [u2_ne (by omega), u2_ne (by omega), u2_ne (by omega), u2_ne (by omega), if_neg z]
        refine q3 q hq i ?_
        by_cases w : q = b
        · subst w; rw [if_pos rfl] at hi; omega
        · rw [if_neg w] at hi; exact hi
  · simp only [mv, and_false, if_false]
    refine ⟨?_, ?_, fun i hi => ?_⟩
    · by_cases z : q = b
      · subst z; rw [u2_eq, q1 a ha, if_pos rfl]
      · rw [u2_ne (by omega), if_neg z]; exact q1 q hq
    · rw [u2_ne (by omega)]; exact q2 q hq
    · rw [u2_ne (by omega)]; exact q3 q hq i hi
theorem ck_r {n tm : Nat → Nat} {g : Nat → Nat → Nat} {a b l : Nat} (ha : a < 3) (hb : b < 3) (hla : l ≤ n a) (hlb : l ≤ n b) (h40 : ∀ q, q < 3 → n q ≤ 40) (q1 : ∀ q, q < 3 → im 398 q = nI (tm q)) (q2 : ∀ q, q < 3 → im 400 q = nI (n q)) (q3 : ∀ q, q < 3 → ∀ i, i < n q → im 399 (40 * q + i) = nI (g q i)) : ∀ q, q < 3 → cq2 im a b l (l < n a) 398 q = nI (if q = b then tm a else tm q) ∧ cq2 im a b l (l < n a) 400 q = nI (cpn n b l (l < n a) q) ∧ ∀ i, i < cpn n b l (l < n a) q → cq2 im a b l (l < n a) 399 (40 * q + i) = nI (if q = b ∧ i = l ∧ l < n a then g a l else g q i) := by
  intro q hq
  have hnq := h40 q hq
  have hna := h40 a ha
  unfold cq2 cq1 cpn
  by_cases mv : l < n a
  · simp only [mv, and_true, if_true]
    refine ⟨?_, ?_, fun i hi => ?_⟩
    · by_cases z : q = b
      · subst z; rw [u2_eq, q1 a ha, if_pos rfl]
      · rw [u2_ne (by omega), u2_ne (by omega), u2_ne (by omega), if_neg z]; exact q1 q hq
    · by_cases z : q = b
      · subst z; rw [u2_ne (by omega), u2_eq, if_pos rfl]
      · rw [u2_ne (by omega), u2_ne (by omega), u2_ne (by omega), if_neg z]; exact q2 q hq
    · by_cases z : q = b ∧ i = l
      · obtain ⟨rfl, rfl⟩ := z
        rw [u2_ne (by omega), u2_ne (by omega), u2_eq, if_pos ⟨rfl, rfl⟩]; exact q3 a ha i mv
      · have hi' : i < n q := by
          by_cases w : q = b
          · subst w; rw [if_pos rfl] at hi; omega
          · rw [if_neg w] at hi; exact hi
        rw [u2_ne (by omega), u2_ne (by omega), u2_ne (by omega), if_neg z]
        exact q3 q hq i hi'
  · simp only [mv, and_false, if_false]
    refine ⟨?_, ?_, fun i hi => ?_⟩
    · by_cases z : q = b
      · subst z; rw [u2_eq, q1 a ha, if_pos rfl]
      · rw [u2_ne (by omega), if_neg z]; exact q1 q hq
    · rw [u2_ne (by omega)]; exact q2 q hq
    · rw [u2_ne (by omega)]; exact q3 q hq i hi
theorem lk_u {n : Nat → Nat} {g : Nat → Nat → Nat} {a b l l' : Nat} (h1 : l ≤ n a) (h2 : l ≤ n b) (h3 : ∀ k, k < l → g a k = g b k) (h4 : l < n a → l < n b → g a l ≠ g b l) (k1 : l' ≤ n a) (k2 : l' ≤ n b) (k3 : ∀ k, k < l' → g a k = g b k) (k4 : l' < n a → l' < n b → g a l' ≠ g b l') : l' = l := by
  rcases Nat.lt_trichotomy l l' with h | h | h
  · exact absurd (k3 l h) (h4 (by omega) (by omega))
  · exact h.symm
  · exact absurd (h3 l' h) (k4 (by omega) (by omega))
theorem mx_u {Q : Nat → Prop} {B V V' : Nat} (h1 : V ≤ B) (h2 : V = 0 ∨ Q V) (h3 : ∀ c, V < c → c ≤ B → ¬ Q c) (k1 : V' ≤ B) (k2 : V' = 0 ∨ Q V') (k3 : ∀ c, V' < c → c ≤ B → ¬ Q c) : V' = V := by
  rcases Nat.lt_trichotomy V V' with h | h | h
  · rcases k2 with w | w
    · omega
    · exact absurd w (h3 V' h k1)
  · exact h.symm
  · rcases h2 with w | w
    · omega
    · exact absurd w (k3 V h h1)
theorem p_8 {a1 a2 : Int32} (hK : K < 90000) (hM : isLd LS rm) (hO : isMo LS rm) (hI : Inv K im) : PX LS rm K im 8 111 [.int a1, .int a2] := by
  have hI' := Inv_k hI
  obtain ⟨M, W, C, N, ld, cl, sz, c, mb, h1, h2, h3, h4, h5, h6, h7, h8, h9⟩ := hI
  obtain ⟨m1, m2, hM60⟩ := h1.1
  have hC60 := h1.2.2.1.2.2
  have hN40 := h1.2.2.2.1.2.2
  obtain ⟨up, tm, n, T, g, G, g1, g2, g3⟩ := id h8
  obtain ⟨n1, n2, -⟩ := h1.2.2.2.1
  have l34 := h1.2.2.2.2.1
  have hgC : ∀ q i, q < 3 → i < n q → g q i < C := fun q i hq hi => (g3.2.2.1 q i hq hi).2
  have h40 : ∀ q, q < 3 → n q ≤ 40 := fun o ho => (g1 o ho).2.2.1.2.2
  have hnx : ∀ o, o < 3 → im (3 * o + 331) 1 = nI (n o) ∧ n o ≤ 40 := fun o ho => ⟨(g1 o ho).2.2.1.1, (g1 o ho).2.2.1.2.2⟩
  have hny : ∀ o, o < 3 → im 400 o = nI (n o) ∧ n o ≤ 40 := fun o ho => ⟨(g1 o ho).2.2.1.2.1, (g1 o ho).2.2.1.2.2⟩
  have cx : ∀ o, o < 3 → ∀ i, i < n o → im (3 * o + 332) i = nI (g o i) := fun o ho i hi => ((g1 o ho).2.2.2 i hi).1
  have cy : ∀ o, o < 3 → ∀ i, i < n o → im 399 (40 * o + i) = nI (g o i) := fun o ho i hi => ((g1 o ho).2.2.2 i hi).2
  have hgx : ∀ o, o < 3 → ∀ i, i < n o → isN (im (3 * o + 332) i) 60 := fun o ho i hi => by rw [cx o ho i hi]; exact isN_of (by have := hgC o i ho hi; omega) (by decide)
  have hgy : ∀ o, o < 3 → ∀ i, i < n o → isN (im 399 (40 * o + i)) 60 := fun o ho i hi => by rw [cy o ho i hi]; exact isN_of (by have := hgC o i ho hi; omega) (by decide)
  have hub : ∀ o, o < 3 → (im (3 * o + 330) 0 ≠ 0 ↔ im 397 o = 0) := fun o ho => by rw [(g1 o ho).1.1, (g1 o ho).1.2]; cases up o <;> decide
  refine x8 (c := N) (n := n) hM n1 hN40 hnx hgx (fun a b ha hb ea eb hld hab hu l hla hlb hse hsd V hV hV1 hV2 => ⟨_, rfl, ?_⟩) (fun hk => ⟨_, rfl, y8 (c := N) (n := n) hO n2 hN40 hny hgy (fun a b ha hb ea eb hld hab hu _ _ _ _ _ _ _ _ _ => absurd ⟨ha, hb, ea, eb, by rw [l34] at hld; exact hld, hab, (hub b hb).mpr hu⟩ (hk a b)) (fun _ => ⟨rfl, hI'⟩)⟩)
  have hlo : ld = a := by
    rcases h1.2.2.2.2.2 with w | w
    · rw [w.1] at hld
      exact absurd hld.symm (nI_nm (by omega))
    · exact nI_inj (w.1.symm.trans hld) (by omega) (by omega)
  subst hlo
  obtain ⟨hul, htl⟩ := g3.2.1 ha
  have hGK : G ≤ K := by have := (g1 ld ha).2.1.2.2; omega
  have hse' : ∀ k, k < l → g ld k = g b k := fun k hk => by
    have e := hse k hk
    rw [cx ld ha k (by omega), cx b hb k (by omega)] at e
    exact nI_inj e (by have := hgC ld k ha (by omega); omega) (by have := hgC b k hb (by omega); omega)
  have hsd' : l < n ld → l < n b → g ld l ≠ g b l := fun y1 y2 e => hsd y1 y2 (by rw [cx ld ha l y1, cx b hb l y2, e])
  have g3' : ag_I (cpn n b l (l < n ld)) (fun q i => if q = b ∧ i = l ∧ l < n ld then g ld l else g q i) T (fun q => if q = b then tm ld else tm q) up ld N c C G := ag_copy g3 ha hb (fun z => hab z.symm) hla hlb hse' hsd' (fun q hq hne => ⟨if_neg (fun z => hne z.1), fun i hi => if_neg (fun z => hne z.1)⟩) (fun y => ⟨if_pos ⟨rfl, y⟩, fun i hi => by
      by_cases z : i = l
      · subst z; exact if_pos ⟨rfl, rfl, y⟩
      · simp only [z, false_and, and_false, if_false]
        exact (hse' i (by omega)).symm⟩) (fun y => ⟨if_neg (fun z => y z.2), fun i hi => if_neg (fun z => y z.2.2)⟩) (if_pos rfl) (fun q hq hne => if_neg hne)
  have nld : cpn n b l (l < n ld) ld = n ld := if_neg (fun z => hab z.1)
  have gld : ∀ i, (fun q i => if q = b ∧ i = l ∧ l < n ld then g ld l else g q i) ld i = g ld i := fun i => if_neg (fun z => hab z.1)
  have X := ck_f (im := im) (n := n) (tm := tm) (g := g) ha hb hla hlb (fun q hq => (g1 q hq).2.1.1) (fun q hq => (g1 q hq).2.2.1.1) cx
  have gC' : ∀ q i, q < 3 → i < cpn n b l (l < n ld) q → (fun q i => if q = b ∧ i = l ∧ l < n ld then g ld l else g q i) q i < C := fun q i hq hi => (g3'.2.2.1 q i hq hi).2
  have agx : ∀ v, 0 < v → v ≤ n ld → (agQ (cp2 im ld b l (l < n ld)) (cpn n b l (l < n ld)) ld v ↔ (T (g ld (v - 1)) = G ∧ ∃ o, o < 3 ∧ o ≠ ld ∧ v - 1 < cpn n b l (l < n ld) o ∧ (fun q i => if q = b ∧ i = l ∧ l < n ld then g ld l else g q i) o (v - 1) = g ld (v - 1))) := by
    intro v v0 vl
    have hv := hgC ld (v - 1) ha (by omega)
    have e1 : cp2 im ld b l (l < n ld) (3 * ld + 332) (v - 1) = nI (g ld (v - 1)) := by rw [(X ld ha).2.2 (v - 1) (by rw [nld]; omega)]; congr 1; exact gld _
    have e2 : cp2 im ld b l (l < n ld) (3 * ld + 330) 1 = nI G := by rw [(X ld ha).1, if_neg hab, htl]
    have t1 := g2 _ hv
    unfold agQ
    rw [e1, e2, tn_nI (by omega), cp2_o (by omega) hb, t1.1]
    refine and_congr (nI_eq (by omega) (by omega)) (exists_congr fun o => ?_)
    constructor
    · rintro ⟨o1, o2, o3, o4⟩
      refine ⟨o1, o2, o3, ?_⟩
      rw [(X o o1).2.2 _ o3] at o4
      exact nI_inj o4 (Nat.lt_of_lt_of_le (gC' o _ o1 o3) (by omega)) (by omega)
    · rintro ⟨o1, o2, o3, o4⟩
      refine ⟨o1, o2, o3, ?_⟩
      rw [(X o o1).2.2 _ o3]
      exact congrArg nI o4
  have Z : ∀ c x, 338 < c → cp3 (cp2 im ld b l (l < n ld)) ld N V c x = im c x := fun c x hx => by rw [cp3_o (by omega) (by omega), cp2_o (by omega) hb]
  have X2 := ck_r (im := cp3 (cp2 im ld b l (l < n ld)) ld N V) (n := n) (tm := tm) (g := g) ha hb hla hlb h40 (fun q hq => by rw [Z _ _ (by omega)]; exact (g1 q hq).2.1.2.1) (fun q hq => by rw [Z _ _ (by omega)]; exact (hny q hq).1) (fun q hq i hi => by rw [Z _ _ (by omega)]; exact cy q hq i hi)
  have agy : ∀ v, 0 < v → v ≤ n ld → (arQ (cq2 (cp3 (cp2 im ld b l (l < n ld)) ld N V) ld b l (l < n ld)) (cpn n b l (l < n ld)) ld v ↔ (T (g ld (v - 1)) = G ∧ ∃ o, o < 3 ∧ o ≠ ld ∧ v - 1 < cpn n b l (l < n ld) o ∧ (fun q i => if q = b ∧ i = l ∧ l < n ld then g ld l else g q i) o (v - 1) = g ld (v - 1))) := by
    intro v v0 vl
    have hv := hgC ld (v - 1) ha (by omega)
    have e1 : cq2 (cp3 (cp2 im ld b l (l < n ld)) ld N V) ld b l (l < n ld) 399 (40 * ld + (v - 1)) = nI (g ld (v - 1)) := by rw [(X2 ld ha).2.2 (v - 1) (by rw [nld]; omega)]; congr 1; exact gld _
    have e2 : cq2 (cp3 (cp2 im ld b l (l < n ld)) ld N V) ld b l (l < n ld) 398 ld = nI G := by rw [(X2 ld ha).1, if_neg hab, htl]
    have t1 := g2 _ hv
    unfold arQ
    rw [e1, e2, tn_nI (by omega), cq2_o (by decide) (by decide) (by decide), Z _ _ (by omega), t1.2.1]
    refine and_congr (nI_eq (by omega) (by omega)) (exists_congr fun o => ?_)
    constructor
    · rintro ⟨o1, o2, o3, o4⟩
      refine ⟨o1, o2, o3, ?_⟩
      rw [(X2 o o1).2.2 _ o3] at o4
      exact nI_inj o4 (Nat.lt_of_lt_of_le (gC' o _ o1 o3) (by omega)) (by omega)
    · rintro ⟨o1, o2, o3, o4⟩
      refine ⟨o1, o2, o3, ?_⟩
      rw [(X2 o o1).2.2 _ o3]
      exact congrArg nI o4
  refine y8 (c := N) (n := n) hO (by rw [Z _ _ (by omega)]; exact n2) hN40 (fun o ho => by rw [Z _ _ (by omega)]; exact hny o ho) (fun o ho i hi => by rw [Z _ _ (by omega)]; exact hgy o ho i hi) (fun a' b' ha' hb' ea' eb' _ _ _ l' hla' hlb' hse2 hsd2 V' hV' hV1' hV2' => ?_) (fun h => absurd ⟨ha, hb, ea, eb, by rw [Z _ _ (by omega), l34]; exact hld, hab, by rw [Z _ _ (by omega)]; exact (hub b hb).mp hu⟩ (h ld b))
  have z1 := nI_inj (ea'.symm.trans ea) (by omega) (by omega)
  have z2 := nI_inj (eb'.symm.trans eb) (by omega) (by omega)
  subst z1
  subst z2
  have hl' : l' = l := lk_u hla hlb hse' hsd' hla' hlb' (fun k hk => by
    have e := hse2 k hk
    rw [Z _ _ (by omega), Z _ _ (by omega), cy a' ha k (by omega), cy b' hb k (by omega)] at e
    exact nI_inj e (by have := hgC a' k ha (by omega); omega) (by have := hgC b' k hb (by omega); omega)) (fun y1 y2 e => hsd2 y1 y2 (by rw [Z _ _ (by omega), Z _ _ (by omega), cy a' ha l' y1, cy b' hb l' y2, e]))
  subst hl'
  have hVV : V' = V := by
    refine mx_u (Q := fun v => 0 < v ∧ v ≤ n a' ∧ (T (g a' (v - 1)) = G ∧ ∃ o, o < 3 ∧ o ≠ a' ∧ v - 1 < cpn n b' l' (l' < n a') o ∧ (fun q i => if q = b' ∧ i = l' ∧ l' < n a' then g a' l' else g q i) o (v - 1) = g a' (v - 1))) hV ?_ (fun v v1 v2 v3 => hV2 v v1 v2 ((agx v v3.1 v2).mpr v3.2.2)) hV' ?_ (fun v v1 v2 v3 => hV2' v v1 v2 ((agy v v3.1 v2).mpr v3.2.2))
    · rcases hV1 with w | w
      · exact Or.inl w
      · by_cases v0 : V = 0
        · exact Or.inl v0
        · exact Or.inr ⟨by omega, hV, (agx V (by omega) hV).mp w⟩
    · rcases hV1' with w | w
      · exact Or.inl w
      · by_cases v0 : V' = 0
        · exact Or.inl v0
        · exact Or.inr ⟨by omega, hV', (agy V' (by omega) hV').mp w⟩
  subst hVV
  refine ⟨rfl, ?_⟩
  have hch : ∃ N' c', N ≤ N' ∧ N' ≤ 40 ∧ ag_I (cpn n b' l' (l' < n a')) (fun q i => if q = b' ∧ i = l' ∧ l' < n a' then g a' l' else g q i) T (fun q => if q = b' then tm a' else tm q) up a' N' c' C G ∧ (∀ i, i < N → c' i = c i) ∧ (N < V' → N' = V' ∧ ∀ i, i < V' → c' i = g a' i) ∧ (¬ N < V' → N' = N ∧ ∀ i, c' i = c i) := by
    by_cases y : N < V'
    · have hq : T (g a' (V' - 1)) = G ∧ ∃ o, o < 3 ∧ o ≠ a' ∧ V' - 1 < cpn n b' l' (l' < n a') o ∧ (fun q i => if q = b' ∧ i = l' ∧ l' < n a' then g a' l' else g q i) o (V' - 1) = g a' (V' - 1) := by
        rcases hV1 with w | w
        · omega
        · exact (agx V' (by omega) hV).mp w
      obtain ⟨hq1, o, o1, o2, o3, o4⟩ := hq
      have k := ag_chain (N := V') (q := o) (c' := g a') g3' ha o1 o2 y (by rw [nld]; exact hV) (by omega) (o4.trans (gld _).symm) ((congrArg T (gld (V' - 1))).trans hq1) (fun i _ => (gld i).symm)
      exact ⟨V', g a', by omega, by have := h40 a' ha; omega, k.1, k.2, fun _ => ⟨rfl, fun _ _ => rfl⟩, fun y2 => absurd y y2⟩
    · exact ⟨N, c, Nat.le_refl _, hN40, g3', fun _ _ => rfl, fun y2 => absurd y2 y, fun _ => ⟨rfl, fun _ => rfl⟩⟩
  obtain ⟨N', c', hNN, hN4', gI, hcc, hy1, hy2⟩ := hch
  have hcC : ∀ i, i < N' → c' i < C := ag_cb gI
  have F1 : ∀ c x, c ≠ 8 → (c ≠ 7 ∨ x ≠ 1) → (c < 330 ∨ 338 < c) → c ≠ 398 → c ≠ 399 → c ≠ 400 → c ≠ 401 → (c ≠ 371 ∨ x ≠ 36) → cq3 (cq2 (cp3 (cp2 im a' b' l' (l' < n a')) a' N V') a' b' l' (l' < n a')) a' N V' c x = im c x := fun c x y1 y2 y3 y4 y5 y6 y7 y8 => by rw [cq3_o y7 y8, cq2_o y4 y5 y6, cp3_o y1 y2, cp2_o (by omega) hb]
  have D1 : ∀ q, q < 3 → cq3 (cq2 (cp3 (cp2 im a' b' l' (l' < n a')) a' N V') a' b' l' (l' < n a')) a' N V' (3 * q + 330) 0 = im (3 * q + 330) 0 := fun q hq => by rw [cq3_o (by omega) (by omega), cq2_o (by omega) (by omega) (by omega), cp3_o (by omega) (by omega), cp2_o (by omega) hb]
  have D2 : ∀ q, q < 3 → cq3 (cq2 (cp3 (cp2 im a' b' l' (l' < n a')) a' N V') a' b' l' (l' < n a')) a' N V' (3 * q + 330) 1 = nI (if q = b' then tm a' else tm q) ∧ cq3 (cq2 (cp3 (cp2 im a' b' l' (l' < n a')) a' N V') a' b' l' (l' < n a')) a' N V' 398 q = nI (if q = b' then tm a' else tm q) := fun q hq => by
    refine ⟨?_, ?_⟩
    · rw [cq3_o (by omega) (by omega), cq2_o (by omega) (by omega) (by omega), cp3_o (by omega) (by omega)]; exact (X q hq).1
    · rw [cq3_o (by omega) (by omega)]; exact (X2 q hq).1
  have D3 : ∀ q, q < 3 → cq3 (cq2 (cp3 (cp2 im a' b' l' (l' < n a')) a' N V') a' b' l' (l' < n a')) a' N V' (3 * q + 331) 1 = nI (cpn n b' l' (l' < n a') q) ∧ cq3 (cq2 (cp3 (cp2 im a' b' l' (l' < n a')) a' N V') a' b' l' (l' < n a')) a' N V' 400 q = nI (cpn n b' l' (l' < n a') q) := fun q hq => by
    refine ⟨?_, ?_⟩
    · rw [cq3_o (by omega) (by omega), cq2_o (by omega) (by omega) (by omega), cp3_o (by omega) (by omega)]; exact (X q hq).2.1
    · rw [cq3_o (by omega) (by omega)]; exact (X2 q hq).2.1
  have D4 : ∀ q, q < 3 → ∀ i, i < cpn n b' l' (l' < n a') q → cq3 (cq2 (cp3 (cp2 im a' b' l' (l' < n a')) a' N V') a' b' l' (l' < n a')) a' N V' (3 * q + 332) i = nI (if q = b' ∧ i = l' ∧ l' < n a' then g a' l' else g q i) ∧ cq3 (cq2 (cp3 (cp2 im a' b' l' (l' < n a')) a' N V') a' b' l' (l' < n a')) a' N V' 399 (40 * q + i) = nI (if q = b' ∧ i = l' ∧ l' < n a' then g a' l' else g q i) := fun q hq i hi => by
    refine ⟨?_, ?_⟩
    · rw [cq3_o (by omega) (by omega), cq2_o (by omega) (by omega) (by omega), cp3_o (by omega) (by omega)]; exact (X q hq).2.2 i hi
    · rw [cq3_o (by omega) (by omega)]; exact (X2 q hq).2.2 i hi
  have D5 : cq3 (cq2 (cp3 (cp2 im a' b' l' (l' < n a')) a' N V') a' b' l' (l' < n a')) a' N V' 7 1 = nI N' ∧ cq3 (cq2 (cp3 (cp2 im a' b' l' (l' < n a')) a' N V') a' b' l' (l' < n a')) a' N V' 371 36 = nI N' ∧ ∀ i, i < N' → cq3 (cq2 (cp3 (cp2 im a' b' l' (l' < n a')) a' N V') a' b' l' (l' < n a')) a' N V' 8 i = nI (c' i) ∧ cq3 (cq2 (cp3 (cp2 im a' b' l' (l' < n a')) a' N V') a' b' l' (l' < n a')) a' N V' 401 i = nI (c' i) := by
    have r1 : ∀ i, cq3 (cq2 (cp3 (cp2 im a' b' l' (l' < n a')) a' N V') a' b' l' (l' < n a')) a' N V' 8 i = cp3 (cp2 im a' b' l' (l' < n a')) a' N V' 8 i := fun i => by rw [cq3_o (by omega) (by omega), cq2_o (by omega) (by omega) (by omega)]
    have r2 : cq3 (cq2 (cp3 (cp2 im a' b' l' (l' < n a')) a' N V') a' b' l' (l' < n a')) a' N V' 7 1 = cp3 (cp2 im a' b' l' (l' < n a')) a' N V' 7 1 := by rw [cq3_o (by omega) (by omega), cq2_o (by omega) (by omega) (by omega)]
    have r3 : cq2 (cp3 (cp2 im a' b' l' (l' < n a')) a' N V') a' b' l' (l' < n a') 371 36 = im 371 36 := by rw [cq2_o (by omega) (by omega) (by omega), Z _ _ (by omega)]
    have r4 : ∀ i, cq2 (cp3 (cp2 im a' b' l' (l' < n a')) a' N V') a' b' l' (l' < n a') 401 i = im 401 i := fun i => by rw [cq2_o (by omega) (by omega) (by omega), Z _ _ (by omega)]
    by_cases y : N < V'
    · obtain ⟨rfl, e2⟩ := hy1 y
      refine ⟨?_, ?_, fun i hi => ⟨?_, ?_⟩⟩
      · rw [r2]; unfold cp3; rw [if_pos y, u2_eq]
      · unfold cq3; rw [if_pos y, u2_eq]
      · rw [r1]; unfold cp3; rw [if_pos y, u2_ne (by omega), ur_eq, pk_cpy_in (by omega) (by omega), show 0 + (i - 0) = i by omega, (X a' ha).2.2 i (by rw [nld]; omega), e2 i hi]
        exact congrArg nI (gld i)
      · unfold cq3 rpK; rw [if_pos y, u2_ne (by omega), ur_eq, if_pos hi, (X2 a' ha).2.2 i (by rw [nld]; omega), e2 i hi]
        exact congrArg nI (gld i)
    · obtain ⟨rfl, e2⟩ := hy2 y
      refine ⟨?_, ?_, fun i hi => ⟨?_, ?_⟩⟩
      · rw [r2]; unfold cp3; rw [if_neg y, cp2_o (by omega) hb]; exact n1
      · unfold cq3; rw [if_neg y, r3]; exact n2
      · rw [r1]; unfold cp3; rw [if_neg y, cp2_o (by omega) hb, e2]; exact (h7 i hi).1
      · unfold cq3; rw [if_neg y, r4, e2]; exact (h7 i hi).2.1
  have hS : chS im (cq3 (cq2 (cp3 (cp2 im a' b' l' (l' < n a')) a' N V') a' b' l' (l' < n a')) a' N V') N := chS_of hM60 hC60 h6 h7 h4 (fun _ => ruS_f (fun c x hx => by unfold xRu at hx; exact F1 c x (by omega) (by omega) (by omega) (by omega) (by omega) (by omega) (by omega) (by omega))) (fun b hb => by rw [(D5.2.2 b (by omega)).2, hcc b hb]; exact (h7 b hb).2.1.symm) (fun b hb => ⟨F1 _ _ (by omega) (by omega) (by omega) (by omega) (by omega) (by omega) (by omega) (by omega), fun i hi => F1 _ _ (by omega) (by omega) (by omega) (by omega) (by omega) (by omega) (by omega) (by omega)⟩) (fun t ht _ => ⟨F1 _ _ (by omega) (by omega) (by omega) (by omega) (by omega) (by omega) (by omega) (by omega), F1 _ _ (by omega) (by omega) (by omega) (by omega) (by omega) (by omega) (by omega) (by omega), tE_f (by omega) (fun c x y1 y2 y3 => F1 _ _ (by omega) (by omega) (by omega) (by omega) (by omega) (by omega) (by omega) (by omega))⟩)
  generalize cq3 (cq2 (cp3 (cp2 im a' b' l' (l' < n a')) a' N V') a' b' l' (l' < n a')) a' N V' = m at *
  clear Z X X2 agx agy
  refine ⟨M, W, C, N', a', cl, sz, c', mb, ?_, iCd_f (fun c x hx => by unfold xCd at hx; exact F1 c x (by omega) (by omega) (by omega) (by omega) (by omega) (by omega) (by omega) (by omega)) h2, iRu_f (fun c x hx => by unfold xRu at hx; exact F1 c x (by omega) (by omega) (by omega) (by omega) (by omega) (by omega) (by omega) (by omega)) h3, iTx_f (fun c x hx => by unfold xTx at hx; exact F1 c x (by omega) (by omega) (by omega) (by omega) (by omega) (by omega) (by omega) (by omega)) h4, iWt_f (fun c x hx => by unfold xWt at hx; exact F1 c x (by omega) (by omega) (by omega) (by omega) (by omega) (by omega) (by omega) (by omega)) h5, iBk_f hC60 (fun c x hx => by unfold xBk at hx; exact F1 c x (by omega) (by omega) (by omega) (by omega) (by omega) (by omega) (by omega) (by omega)) h6, ?_, ?_, ?_⟩
  · obtain ⟨k1, k2, k3, k4, k5, k6⟩ := h1
    refine ⟨?_, ?_, ?_, ⟨D5.1, D5.2.1, hN4'⟩, ?_, Or.inr ⟨?_, ha⟩⟩
    · rw [F1 1 2 (by omega) (by omega) (by omega) (by omega) (by omega) (by omega) (by omega) (by omega), F1 371 9 (by omega) (by omega) (by omega) (by omega) (by omega) (by omega) (by omega) (by omega)]; exact k1
    · rw [F1 1 4 (by omega) (by omega) (by omega) (by omega) (by omega) (by omega) (by omega) (by omega), F1 371 25 (by omega) (by omega) (by omega) (by omega) (by omega) (by omega) (by omega) (by omega)]; exact k2
    · rw [F1 1 6 (by omega) (by omega) (by omega) (by omega) (by omega) (by omega) (by omega) (by omega), F1 371 26 (by omega) (by omega) (by omega) (by omega) (by omega) (by omega) (by omega) (by omega)]; exact k3
    · rw [F1 1 8 (by omega) (by omega) (by omega) (by omega) (by omega) (by omega) (by omega) (by omega), F1 371 34 (by omega) (by omega) (by omega) (by omega) (by omega) (by omega) (by omega) (by omega)]; exact k5
    · rw [F1 1 8 (by omega) (by omega) (by omega) (by omega) (by omega) (by omega) (by omega) (by omega)]; exact hld
  · intro i hi
    exact ⟨(D5.2.2 i hi).1, (D5.2.2 i hi).2, hcC i hi⟩
  · refine ⟨up, (fun q => if q = b' then tm a' else tm q), cpn n b' l' (l' < n a'), T, (fun q i => if q = b' ∧ i = l' ∧ l' < n a' then g a' l' else g q i), G, fun q hq => ⟨?_, ⟨(D2 q hq).1, (D2 q hq).2, ?_⟩, ⟨(D3 q hq).1, (D3 q hq).2, ?_⟩, D4 q hq⟩, fun b hb => ?_, gI⟩
    · rw [D1 q hq, F1 397 q (by omega) (by omega) (by omega) (by omega) (by omega) (by omega) (by omega) (by omega)]; exact (g1 q hq).1
    · have e1 := (g1 q hq).2.1.2.2
      have e2 := (g1 a' ha).2.1.2.2
      simp only
      split <;> omega
    · have e1 := h40 q hq
      have e2 := h40 a' ha
      unfold cpn
      split <;> omega
    · rw [F1 _ _ (by omega) (by omega) (by omega) (by omega) (by omega) (by omega) (by omega) (by omega), F1 396 b (by omega) (by omega) (by omega) (by omega) (by omega) (by omega) (by omega) (by omega)]; exact ⟨(g2 b hb).1, (g2 b hb).2.1, by have := (g2 b hb).2.2; omega⟩
  · exact iPe_N hNN hcc (iPe_f (fun c x hx => by unfold xPe at hx; exact F1 c x (by omega) (by omega) (by omega) (by omega) (by omega) (by omega) (by omega) (by omega)) hS h9)
end PAIRG
