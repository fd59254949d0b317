/-! THE AGREEMENT OF THE THREE ORDERERS, purely: n o is the length of o's log, g o i its block's number at i, T x the term of block x, tm o a term, ld the leader (3: none), the chain is c of length cn, nb blocks are cut, G is the greatest term -/
def ag_p (n : Nat → Nat) (g : Nat → Nat → Nat) (cn : Nat) (c : Nat → Nat) (o : Nat) : Prop := cn ≤ n o ∧ ∀ i, i < cn → g o i = c i
def ag_I (n : Nat → Nat) (g : Nat → Nat → Nat) (T tm : Nat → Nat) (up : Nat → Bool) (ld cn : Nat) (c : Nat → Nat) (nb G : Nat) : Prop :=
  ((∃ a b, a < 3 ∧ b < 3 ∧ a ≠ b ∧ tm a = G ∧ tm b = G) ∧ ∀ o, o < 3 → tm o ≤ G) ∧
  (ld < 3 → up ld = true ∧ tm ld = G) ∧
  (∀ o i, o < 3 → i < n o → T (g o i) ≤ G ∧ g o i < nb) ∧
  (∀ q r i j, q < 3 → r < 3 → i < n q → i < n r → g q i = g r i → j ≤ i → g q j = g r j) ∧
  (∀ o i j, o < 3 → i ≤ j → j < n o → T (g o i) ≤ T (g o j)) ∧
  (∀ q r i j, q < 3 → r < 3 → i ≤ j → i < n q → j < n r → T (g q i) = T (g r j) → g r i = g q i) ∧
  (ld < 3 → ∀ q i, q < 3 → i < n q → T (g q i) = G → i < n ld ∧ g ld i = g q i) ∧
  (∃ a b, a < 3 ∧ b < 3 ∧ a ≠ b ∧ ag_p n g cn c a ∧ ag_p n g cn c b) ∧
  (ld < 3 → ag_p n g cn c ld) ∧
  (∀ o i, o < 3 → i < n o → 0 < cn → T (c (cn - 1)) < T (g o i) → ag_p n g cn c o)
theorem ag_0 {n T tm : Nat → Nat} {g : Nat → Nat → Nat} {c : Nat → Nat} {up : Nat → Bool} (hn : ∀ o, o < 3 → n o = 0) (ht : ∀ o, o < 3 → tm o = 0) : ag_I n g T tm up 3 0 c 0 0 := by
  have pz : ∀ o, ag_p n g 0 c o := fun o => ⟨Nat.zero_le _, fun i h => absurd h (Nat.not_lt_zero i)⟩
  refine ⟨⟨⟨0, 1, by omega, by omega, by omega, ht 0 (by omega), ht 1 (by omega)⟩, fun o ho => Nat.le_of_eq (ht o ho)⟩, fun h => by omega, fun o i ho h => ?_, fun q r i j hq hr h => ?_, fun o i j ho hij h => ?_, fun q r i j hq hr hij h => ?_, fun h => by omega, ⟨0, 1, by omega, by omega, by omega, pz 0, pz 1⟩, fun h => by omega, fun o i ho h => ?_⟩
  · rw [hn o ho] at h; omega
  · rw [hn q hq] at h; omega
  · rw [hn o ho] at h; omega
  · rw [hn q hq] at h; omega
  · exact fun _ _ => pz o
section AG
variable {n : Nat → Nat} {g : Nat → Nat → Nat} {T tm : Nat → Nat} {up : Nat → Bool} {ld cn nb G : Nat} {c : Nat → Nat}
/-- two of three and two of three have one in common -/
theorem ag_meet {a b x y : Nat} (ha : a < 3) (hb : b < 3) (hab : a ≠ b) (hx : x < 3) (hy : y < 3) (hxy : x ≠ y) : a = x ∨ a = y ∨ b = x ∨ b = y := by omega
/-- what 'not newer' is: s's log is not newer than o's -/
def ag_lt (n : Nat → Nat) (g : Nat → Nat → Nat) (T : Nat → Nat) (o : Nat) : Nat := if n o = 0 then 0 else T (g o (n o - 1))
def ag_nn (n : Nat → Nat) (g : Nat → Nat → Nat) (T : Nat → Nat) (s o : Nat) : Prop := ¬ (ag_lt n g T o < ag_lt n g T s ∨ (ag_lt n g T s = ag_lt n g T o ∧ n o < n s))
/-- the greatest term of those that are up is G, where two are up -/
theorem ag_top (h : ag_I n g T tm up ld cn c nb G) {o s : Nat} (ho : o < 3) (hs : s < 3) (hos : o ≠ s) : tm o = G ∨ tm s = G := by
  obtain ⟨⟨⟨a, b, ha, hb, hab, h1, h2⟩, -⟩, -⟩ := h
  rcases ag_meet ha hb hab ho hs hos with rfl | rfl | rfl | rfl
  · exact Or.inl h1
  · exact Or.inr h1
  · exact Or.inl h2
  · exact Or.inr h2
theorem ag_win (h : ag_I n g T tm up ld cn c nb G) {o s : Nat} (ho : o < 3) (hs : s < 3) (hos : o ≠ s) (hn : ag_nn n g T s o) : ag_p n g cn c o := by
  obtain ⟨-, -, A3, B1, B2, B3, -, ⟨a, b, ha, hb, hab, h1, h2⟩, -, C3⟩ := h
  by_cases hcn : cn = 0
  · subst hcn
    exact ⟨Nat.zero_le _, fun _ h => by omega⟩
  have key : ag_p n g cn c s → ag_p n g cn c o := by
    intro hp
    have hsn : n s ≠ 0 := by have := hp.1; omega
    have hlast : g s (cn - 1) = c (cn - 1) := hp.2 _ (by omega)
    have hTs : T (c (cn - 1)) ≤ T (g s (n s - 1)) := by
      rw [← hlast]
      exact B2 s _ _ hs (by have := hp.1; omega) (by omega)
    unfold ag_nn ag_lt at hn
    rw [if_neg hsn] at hn
    by_cases hon : n o = 0
    · rw [if_pos hon] at hn
      exfalso
      apply hn
      by_cases hz : T (g s (n s - 1)) = 0
      · exact Or.inr ⟨hz, by omega⟩
      · exact Or.inl (by omega)
    · rw [if_neg hon] at hn
      by_cases hgt : T (c (cn - 1)) < T (g o (n o - 1))
      · exact C3 o _ ho (by omega) (by omega) hgt
      · have e1 : T (g s (n s - 1)) = T (g o (n o - 1)) := by
          by_cases hz : T (g o (n o - 1)) < T (g s (n s - 1))
          · exact absurd (Or.inl hz) hn
          · omega
        have e2 : n s ≤ n o := by
          by_cases hz : n o < n s
          · exact absurd (Or.inr ⟨e1, hz⟩) hn
          · omega
        have e3 : g o (cn - 1) = g s (cn - 1) := B3 s o (cn - 1) (n o - 1) hs ho (by have := hp.1; omega) (by have := hp.1; omega) (by omega) (by rw [hlast]; omega)
        refine ⟨by have := hp.1; omega, fun i hi => ?_⟩
        have := B1 o s (cn - 1) i ho hs (by have := hp.1; omega) (by have := hp.1; omega) e3 (by omega)
        rw [this]
        exact hp.2 i hi
  rcases ag_meet ha hb hab ho hs hos with rfl | rfl | rfl | rfl
  · exact h1
  · exact key h1
  · exact h2
  · exact key h2
/-- an election -/
theorem ag_elect (h : ag_I n g T tm up ld cn c nb G) {o s : Nat} (ho : o < 3) (hs : s < 3) (hos : o ≠ s) (huo : up o = true) (hus : up s = true) (hn : ag_nn n g T s o) {tm' : Nat → Nat} (ht : ∀ q, q < 3 → tm' q = if up q = true then G + 1 else tm q) : ag_I n g T tm' up o cn c nb (G + 1) := by
  have hw := ag_win h ho hs hos hn
  obtain ⟨⟨-, A1b⟩, -, A3, B1, B2, B3, -, C1, -, C3⟩ := h
  refine ⟨⟨⟨o, s, ho, hs, hos, by rw [ht o ho, if_pos huo], by rw [ht s hs, if_pos hus]⟩, fun q hq => ?_⟩, fun _ => ⟨huo, by rw [ht o ho, if_pos huo]⟩, fun q i hq hi => ⟨Nat.le_trans (A3 q i hq hi).1 (Nat.le_succ _), (A3 q i hq hi).2⟩, B1, B2, B3, fun _ q i hq hi he => ?_, C1, fun _ => hw, C3⟩
  · rw [ht q hq]
    split
    · exact Nat.le_refl _
    · exact Nat.le_trans (A1b q hq) (Nat.le_succ _)
  · have := (A3 q i hq hi).1
    omega
/-- power: only who is up changes; a leader that goes down is none -/
theorem ag_power (h : ag_I n g T tm up ld cn c nb G) {up' : Nat → Bool} {ld' : Nat} (hl : ld' < 3 → ld' = ld ∧ up' ld = true) : ag_I n g T tm up' ld' cn c nb G := by
  obtain ⟨A1, A2, A3, B1, B2, B3, B4, C1, C2, C3⟩ := h
  refine ⟨A1, fun h => ?_, A3, B1, B2, B3, fun h => ?_, C1, fun h => ?_, C3⟩
  · obtain ⟨e, hu⟩ := hl h
    subst e
    exact ⟨hu, (A2 h).2⟩
  · obtain ⟨e, hu⟩ := hl h
    subst e
    exact B4 h
  · obtain ⟨e, hu⟩ := hl h
    subst e
    exact C2 h
/-- a cut by the leader: block nb of term G stands at the end of its log -/
theorem ag_cut (h : ag_I n g T tm up ld cn c nb G) (hl : ld < 3) {n' : Nat → Nat} {g' : Nat → Nat → Nat} {T' : Nat → Nat} (hn1 : n' ld = n ld + 1) (hn2 : ∀ q, q < 3 → q ≠ ld → n' q = n q) (hg1 : g' ld (n ld) = nb) (hg2 : ∀ q i, q < 3 → i < n q → g' q i = g q i) (hT1 : T' nb = G) (hT2 : ∀ x, x < nb → T' x = T x) (hcb : ∀ i, i < cn → c i < nb) : ag_I n' g' T' tm up ld cn c (nb + 1) G := by
  obtain ⟨A1, A2, A3, B1, B2, B3, B4, ⟨a, b, ha, hb, hab, h1, h2⟩, C2, C3⟩ := h
  have B4 := B4 hl
  -- a place of a log now: an old one, or the new one
  have old : ∀ q i, q < 3 → i < n' q → (i < n q ∧ g' q i = g q i ∧ T' (g' q i) = T (g q i)) ∨ (q = ld ∧ i = n ld ∧ g' q i = nb ∧ T' (g' q i) = G) := by
    intro q i hq hi
    by_cases hql : q = ld
    · subst hql
      rw [hn1] at hi
      by_cases hin : i = n q
      · subst hin
        exact Or.inr ⟨rfl, rfl, hg1, by rw [hg1]; exact hT1⟩
      · have hlt : i < n q := by omega
        exact Or.inl ⟨hlt, hg2 q i hq hlt, by rw [hg2 q i hq hlt]; exact hT2 _ (A3 q i hq hlt).2⟩
    · rw [hn2 q hq hql] at hi
      exact Or.inl ⟨hi, hg2 q i hq hi, by rw [hg2 q i hq hi]; exact hT2 _ (A3 q i hq hi).2⟩
  have lt' : ∀ q i, q < 3 → i < n q → i < n' q := by
    intro q i hq hi
    by_cases hql : q = ld
    · subst hql; omega
    · rw [hn2 q hq hql]; exact hi
  have pre' : ∀ q, q < 3 → ag_p n g cn c q → ag_p n' g' cn c q := by
    intro q hq hp
    refine ⟨?_, fun i hi => ?_⟩
    · by_cases hql : q = ld
      · subst hql; have := hp.1; omega
      · rw [hn2 q hq hql]; exact hp.1
    · rw [hg2 q i hq (by have := hp.1; omega)]
      exact hp.2 i hi
  refine ⟨A1, A2, ?_, ?_, ?_, ?_, ?_, ⟨a, b, ha, hb, hab, pre' a ha h1, pre' b hb h2⟩, fun _ => pre' ld hl (C2 hl), ?_⟩
  · intro q i hq hi
    rcases old q i hq hi with ⟨e1, e2, e3⟩ | ⟨-, -, e2, e3⟩
    · rw [e3, e2]
      exact ⟨(A3 q i hq e1).1, Nat.lt_succ_of_lt (A3 q i hq e1).2⟩
    · rw [e3, e2]
      exact ⟨Nat.le_refl _, Nat.lt_succ_self _⟩
  · intro q r i j hq hr hi hi2 he hj
    rcases old q i hq hi with ⟨e1, e2, -⟩ | ⟨e0, e1, e2, -⟩ <;> rcases old r i hr hi2 with ⟨f1, f2, -⟩ | ⟨f0, f1, f2, -⟩
    · rw [hg2 q j hq (by omega), hg2 r j hr (by omega)]
      exact B1 q r i j hq hr e1 f1 (by rw [← e2, ← f2]; exact he) hj
    · exfalso
      have := (A3 q i hq e1).2
      rw [e2, f2] at he
      omega
    · exfalso
      have := (A3 r i hr f1).2
      rw [e2, f2] at he
      omega
    · rw [e0, f0]
  · intro q i j hq hij hj
    have hi : i < n' q := by omega
    rcases old q j hq hj with ⟨e1, -, e3⟩ | ⟨e0, e1, -, e3⟩
    · rcases old q i hq hi with ⟨f1, -, f3⟩ | ⟨f0, f1, -, f3⟩
      · rw [e3, f3]
        exact B2 q i j hq hij e1
      · subst f0
        omega
    · rw [e3]
      rcases old q i hq hi with ⟨f1, -, f3⟩ | ⟨f0, f1, -, f3⟩
      · rw [f3]
        exact (A3 q i hq f1).1
      · rw [f3]
        exact Nat.le_refl _
  · intro q r i j hq hr hij hi hj he
    rcases old q i hq hi with ⟨e1, e2, e3⟩ | ⟨e0, e1, e2, e3⟩ <;> rcases old r j hr hj with ⟨f1, f2, f3⟩ | ⟨f0, f1, f2, f3⟩
    · rw [hg2 r i hr (by omega), e2]
      exact B3 q r i j hq hr hij e1 f1 (by rw [← e3, ← f3]; exact he)
    · -- the new block is r's at j; q's at i is of term G: the leader has it there
      subst f0
      have hq4 := B4 q i hq e1 (by rw [← e3, he, f3])
      rw [hg2 r i hr hq4.1, e2]
      exact hq4.2
    · -- the new block is q's at i; r's at j ≥ i of term G stands in the leader's old log: no
      exfalso
      subst e0
      have hr4 := B4 r j hr f1 (by rw [← f3, ← he, e3])
      omega
    · subst e0
      rw [f0, e1, hg1]
  · intro _ q i hq hi he
    rcases old q i hq hi with ⟨e1, e2, e3⟩ | ⟨e0, e1, e2, e3⟩
    · have h4 := B4 q i hq e1 (by rw [← e3]; exact he)
      exact ⟨lt' ld i hl h4.1, by rw [hg2 ld i hl h4.1, e2]; exact h4.2⟩
    · subst e0
      exact ⟨hi, rfl⟩
  · intro q i hq hi hc hT
    rcases old q i hq hi with ⟨e1, e2, e3⟩ | ⟨e0, e1, e2, e3⟩
    · refine pre' q hq (C3 q i hq e1 hc ?_)
      rw [e3, hT2 _ (hcb _ (by omega))] at hT
      exact hT
    · subst e0
      exact pre' q hq (C2 hq)
/-- a copy by the leader a to b: the log of b is as it was, or the beginning of a's, one longer than what is the same -/
theorem ag_copy (h : ag_I n g T tm up ld cn c nb G) {b same : Nat} (hl : ld < 3) (hb : b < 3) (hbl : b ≠ ld) (hsa : same ≤ n ld) (hsb : same ≤ n b) (hse : ∀ i, i < same → g ld i = g b i) (hsd : same < n ld → same < n b → g ld same ≠ g b same)
    {n' : Nat → Nat} {g' : Nat → Nat → Nat} {tm' : Nat → Nat} (hq : ∀ q, q < 3 → q ≠ b → n' q = n q ∧ ∀ i, i < n q → g' q i = g q i) (hb1 : same < n ld → n' b = same + 1 ∧ ∀ i, i ≤ same → g' b i = g ld i) (hb2 : ¬ same < n ld → n' b = n b ∧ ∀ i, i < n b → g' b i = g b i) (ht1 : tm' b = tm ld) (ht2 : ∀ q, q < 3 → q ≠ b → tm' q = tm q) : ag_I n' g' T tm' up ld cn c nb G := by
  obtain ⟨⟨A1, A1b⟩, A2, A3, B1, B2, B3, B4, ⟨x, y, hx, hy, hxy, h1, h2⟩, C2, C3⟩ := h
  have B4 := B4 hl
  have C2 := C2 hl
  have A2 := A2 hl
  have hld := hq ld hl (fun z => hbl z.symm)
  -- a place of a log now: of the same log before, or (b's) of the leader's
  have src : ∀ q i, q < 3 → i < n' q → ∃ q0, q0 < 3 ∧ i < n q0 ∧ (∀ j, j ≤ i → g' q j = g q0 j) ∧ (q0 = q ∨ (q = b ∧ q0 = ld)) := by
    intro q i hq3 hi
    by_cases hqb : q = b
    · subst hqb
      by_cases hs : same < n ld
      · obtain ⟨e1, e2⟩ := hb1 hs
        exact ⟨ld, hl, by omega, fun j hj => e2 j (by omega), Or.inr ⟨rfl, rfl⟩⟩
      · obtain ⟨e1, e2⟩ := hb2 hs
        exact ⟨q, hb, by omega, fun j hj => e2 j (by omega), Or.inl rfl⟩
    · obtain ⟨e1, e2⟩ := hq q hq3 hqb
      exact ⟨q, hq3, by omega, fun j hj => e2 j (by omega), Or.inl rfl⟩
  have preb : ag_p n g cn c b → ag_p n' g' cn c b := by
    intro hp
    by_cases hs : same < n ld
    · obtain ⟨e1, e2⟩ := hb1 hs
      have hcs : cn ≤ same := by
        by_cases hz : cn ≤ same
        · exact hz
        · exfalso
          have a1 := C2.2 same (by omega)
          have a2 := hp.2 same (by omega)
          exact hsd hs (by have := hp.1; omega) (a1.trans a2.symm)
      refine ⟨by omega, fun i hi => ?_⟩
      rw [e2 i (by omega)]
      exact C2.2 i hi
    · obtain ⟨e1, e2⟩ := hb2 hs
      refine ⟨by have := hp.1; omega, fun i hi => ?_⟩
      rw [e2 i (by have := hp.1; omega)]
      exact hp.2 i hi
  have pre' : ∀ q, q < 3 → ag_p n g cn c q → ag_p n' g' cn c q := by
    intro q hq3 hp
    by_cases hqb : q = b
    · subst hqb
      exact preb hp
    · obtain ⟨e1, e2⟩ := hq q hq3 hqb
      refine ⟨by have := hp.1; omega, fun i hi => ?_⟩
      rw [e2 i (by have := hp.1; omega)]
      exact hp.2 i hi
  refine ⟨⟨⟨ld, b, hl, hb, fun z => hbl z.symm, by rw [ht2 ld hl (fun z => hbl z.symm)]; exact A2.2, by rw [ht1]; exact A2.2⟩, fun q hq3 => ?_⟩, fun _ => ⟨A2.1, by rw [ht2 ld hl (fun z => hbl z.symm)]; exact A2.2⟩, ?_, ?_, ?_, ?_, ?_, ⟨x, y, hx, hy, hxy, pre' x hx h1, pre' y hy h2⟩, fun _ => pre' ld hl C2, ?_⟩
  · by_cases hqb : q = b
    · rw [hqb, ht1]
      exact Nat.le_of_eq A2.2
    · rw [ht2 q hq3 hqb]
      exact A1b q hq3
  · intro q i hq3 hi
    obtain ⟨q0, h0, h1, h2, -⟩ := src q i hq3 hi
    rw [h2 i (Nat.le_refl _)]
    exact A3 q0 i h0 h1
  · intro q r i j hq3 hr3 hi hi2 he hj
    obtain ⟨q0, a0, a1, a2, -⟩ := src q i hq3 hi
    obtain ⟨r0, b0, b1, b2, -⟩ := src r i hr3 hi2
    rw [a2 j hj, b2 j hj]
    exact B1 q0 r0 i j a0 b0 a1 b1 (by rw [← a2 i (Nat.le_refl _), ← b2 i (Nat.le_refl _)]; exact he) hj
  · intro q i j hq3 hij hj
    obtain ⟨q0, a0, a1, a2, -⟩ := src q j hq3 hj
    rw [a2 i hij, a2 j (Nat.le_refl _)]
    exact B2 q0 i j a0 hij a1
  · intro q r i j hq3 hr3 hij hi hj he
    obtain ⟨q0, a0, a1, a2, -⟩ := src q i hq3 hi
    obtain ⟨r0, b0, b1, b2, -⟩ := src r j hr3 hj
    rw [b2 i hij, a2 i (Nat.le_refl _)]
    exact B3 q0 r0 i j a0 b0 hij a1 b1 (by rw [← a2 i (Nat.le_refl _), ← b2 j (Nat.le_refl _)]; exact he)
  · intro _ q i hq3 hi he
    obtain ⟨q0, a0, a1, a2, -⟩ := src q i hq3 hi
    have h4 := B4 q0 i a0 a1 (by rw [← a2 i (Nat.le_refl _)]; exact he)
    refine ⟨by rw [hld.1]; exact h4.1, ?_⟩
    rw [hld.2 i h4.1, a2 i (Nat.le_refl _)]
    exact h4.2
  · intro q i hq3 hi hc hT
    obtain ⟨q0, a0, a1, a2, hor⟩ := src q i hq3 hi
    have hp := C3 q0 i a0 a1 hc (by rw [← a2 i (Nat.le_refl _)]; exact hT)
    rcases hor with e | ⟨e1, e2⟩
    · subst e
      exact pre' q0 hq3 hp
    · subst e1; subst e2
      -- the place i is behind the chain's last
      have hlt : cn ≤ i := by
        by_cases hz : cn ≤ i
        · exact hz
        · exfalso
          have a3 := B2 q0 i (cn - 1) a0 (by omega) (by have := hp.1; omega)
          rw [hp.2 (cn - 1) (by omega), ← a2 i (Nat.le_refl _)] at a3
          omega
      refine ⟨by omega, fun k hk => ?_⟩
      rw [a2 k (by omega)]
      exact hp.2 k hk
/-- the chain becomes the first N of the leader's log, where the block at N - 1 is of the leader's term and stands there in another's log too: it only grows -/
theorem ag_chain (h : ag_I n g T tm up ld cn c nb G) {N q : Nat} {c' : Nat → Nat} (hl : ld < 3) (hq : q < 3) (hql : q ≠ ld) (hN : cn < N) (hNl : N ≤ n ld) (hNq : N ≤ n q) (he : g q (N - 1) = g ld (N - 1)) (hT : T (g ld (N - 1)) = G) (hc : ∀ i, i < N → c' i = g ld i) : ag_I n g T tm up ld N c' nb G ∧ ∀ i, i < cn → c' i = c i := by
  obtain ⟨A1, A2, A3, B1, B2, B3, B4, C1, C2, C3⟩ := h
  have C2 := C2 hl
  have pl : ag_p n g N c' ld := ⟨hNl, fun i hi => (hc i hi).symm⟩
  have pq : ag_p n g N c' q := ⟨hNq, fun i hi => by
    rw [hc i hi]
    exact B1 q ld (N - 1) i hq hl (by omega) (by omega) he (by omega)⟩
  refine ⟨⟨A1, A2, A3, B1, B2, B3, B4, ⟨ld, q, hl, hq, fun z => hql z.symm, pl, pq⟩, fun _ => pl, fun o i ho hi _ hlt => ?_⟩, fun i hi => ?_⟩
  · exfalso
    rw [hc (N - 1) (by omega), hT] at hlt
    have := (A3 o i ho hi).1
    omega
  · rw [hc i (by omega)]
    exact C2.2 i hi
/-- the chain's numbers are of blocks that are cut -/
theorem ag_cb (h : ag_I n g T tm up ld cn c nb G) : ∀ i, i < cn → c i < nb := by
  obtain ⟨-, -, A3, -, -, -, -, ⟨a, -, ha, -, -, h1, -⟩, -⟩ := h
  intro i hi
  rw [← h1.2 i hi]
  exact (A3 a i ha (by have := h1.1; omega)).2
end AG
