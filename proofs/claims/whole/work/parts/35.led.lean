def tn (x : Int32) : Nat := x.toNatClampNeg
def isN (x : Int32) (B : Nat) : Prop := x = nI (tn x) ∧ tn x < B
theorem tn_nI {n : Nat} (h : n < 2 ^ 31) : tn (nI n) = n := nI_clamp h
theorem isN_of {n B : Nat} (h : n < B) (hB : B ≤ 2 ^ 31) : isN (nI n) B := by
  unfold isN
  rw [tn_nI (by omega)]
  exact ⟨rfl, h⟩
def allN (p : Nat → Bool) : Nat → Bool
  | 0 => true
  | n + 1 => allN p n && p n
def anyN (p : Nat → Bool) : Nat → Bool
  | 0 => false
  | n + 1 => anyN p n || p n
theorem allN_iff {p : Nat → Bool} : ∀ {n : Nat}, allN p n = true ↔ ∀ k, k < n → p k = true := by
  intro n
  induction n with
  | zero => simp [allN]
  | succ n ih =>
    unfold allN
    rw [Bool.and_eq_true, ih]
    constructor
    · rintro ⟨h1, h2⟩ k hk
      by_cases hkn : k = n
      · rw [hkn]; exact h2
      · exact h1 k (by omega)
    · intro h
      exact ⟨fun k hk => h k (by omega), h n (by omega)⟩
theorem anyN_iff {p : Nat → Bool} : ∀ {n : Nat}, anyN p n = true ↔ ∃ k, k < n ∧ p k = true := by
  intro n
  induction n with
  | zero => simp [anyN]
  | succ n ih =>
    unfold anyN
    rw [Bool.or_eq_true, ih]
    constructor
    · rintro (⟨k, h1, h2⟩ | h)
      · exact ⟨k, by omega, h2⟩
      · exact ⟨n, by omega, h⟩
    · rintro ⟨k, h1, h2⟩
      by_cases hkn : k = n
      · right; rw [← hkn]; exact h2
      · left; exact ⟨k, by omega, h2⟩
theorem allN_congr {p q : Nat → Bool} : ∀ {n : Nat}, (∀ k, k < n → p k = q k) → allN p n = allN q n := by
  intro n
  induction n with
  | zero => intro _; rfl
  | succ n ih => intro h; unfold allN; rw [ih (fun k hk => h k (by omega)), h n (by omega)]
theorem anyN_congr {p q : Nat → Bool} : ∀ {n : Nat}, (∀ k, k < n → p k = q k) → anyN p n = anyN q n := by
  intro n
  induction n with
  | zero => intro _; rfl
  | succ n ih => intro h; unfold anyN; rw [ih (fun k hk => h k (by omega)), h n (by omega)]
/-! the chain, blocks, members, as numbers -/
def chv (im : Nat → Nat → Int32) (i : Nat) : Nat := tn (im 8 i)
def szv (im : Nat → Nat → Int32) (m : Nat) : Nat := tn (im (2 * m + 210) 1)
def mbv (im : Nat → Nat → Int32) (m j : Nat) : Nat := tn (im (2 * m + 211) j)
def prv (im : Nat → Nat → Int32) (t : Nat) : Nat := tn (im (3 * t + 30) 0)
def hgv (im : Nat → Nat → Int32) (p : Nat) : Nat := tn (im (4 * p + 14) 4)
def okC (im : Nat → Nat → Int32) (N : Nat) : Prop := ∀ i, i < N → isN (im 8 i) 60 ∧ isN (im (2 * chv im i + 210) 1) 5 ∧ ∀ j, j < szv im (chv im i) → isN (im (2 * chv im i + 211) j) 60 ∧ isN (im (3 * mbv im (chv im i) j + 30) 0) 4 ∧ isN (im (4 * prv im (mbv im (chv im i) j) + 14) 4) 10
/-- does t stand in the chain ahead of place j of its block b? -/
def earB (im : Nat → Nat → Int32) (t : Int32) (b place : Nat) : Bool := anyN (fun i => anyN (fun j => decide (im (2 * chv im i + 211) j = t)) (szv im (chv im i))) b || anyN (fun j => decide (im (2 * chv im b + 211) j = t)) place
def rowB (im : Nat → Nat → Int32) (a s r : Nat) : Bool := allN (fun k => decide (im (a + 1) (16 * r + k) = -1) || decide (im (a + 1) (16 * r + k) = im (s + 1) k)) 16
def metB (im : Nat → Nat → Int32) (p : Nat) (e : Int32) : Bool := decide (0 < hgv im p) && decide ((im (4 * p + 17) (hgv im p - 1) >>> (e &&& 31)) &&& 1 = 1)
def jdg (im : Nat → Nat → Int32) (s b place : Nat) : Int32 :=
  let t := mbv im (chv im b) place
  if earB im (nI t) b place = true then 4 else if metB im (prv im t) (im (3 * t + 30) 2) = false then 1 else if rowB im (3 * t + 31) s 0 = false then 2 else if rowB im (3 * t + 31) s 1 = true ∧ rowB im (3 * t + 31) s 2 = true then 0 else 3
theorem rowB_t {im : Nat → Nat → Int32} {a s r : Nat} (h : ∀ k, k < 16 → im (a + 1) (16 * r + k) = -1 ∨ im (a + 1) (16 * r + k) = im (s + 1) k) : rowB im a s r = true := allN_iff.mpr (fun k hk => by rcases h k hk with e | e <;> simp [e])
theorem rowB_f {im : Nat → Nat → Int32} {a s r : Nat} (h : ¬ ∀ k, k < 16 → im (a + 1) (16 * r + k) = -1 ∨ im (a + 1) (16 * r + k) = im (s + 1) k) : rowB im a s r = false := by
  cases hb : rowB im a s r with
  | false => rfl
  | true =>
    exfalso
    apply h
    intro k hk
    have := allN_iff.mp hb k hk
    simpa using this
set_option maxRecDepth 20000 in
set_option maxHeartbeats 4000000 in
theorem l38 {LS : Nat} {rm : Nat → Nat → Option Nat} {im : Nat → Nat → Int32} {P : Option Value → (Nat → Nat → Int32) → Prop} {t : Int32} {b pl : Nat} (hM : isLd LS rm) (hC : okC im (b + 1)) (hb : b < 40) (hp : pl ≤ 4) (h1 : earB im t b pl = true → P (some (.int 1)) im) (h0 : earB im t b pl = false → P (some (.int 0)) im) : ∀ (n i : Nat), i + n = b → ∀ (u : Value), (∀ k, k < i → ∀ j, j < szv im (chv im k) → im (2 * chv im k + 211) j ≠ t) → Gm LS rm 38 3 [.ref (1), .int (t), .int (nI b), .int (nI pl), .int (nI i), u] [] (im) P := by
  intro n
  induction n with
  | zero =>
    intro i hi u hq
    have hie : b = i := by omega
    subst hie
    refine g_iload k38_3 rfl ?_
    refine g_iload_n k38_5 rfl ?_
    refine g_icmp_ge k38_6 (fun _ => ?_) (fun h => absurd (nI_le (Nat.le_refl _) (by omega)) h)
    obtain ⟨⟨x1, x2⟩, -, -⟩ := hC b (by omega)
    refine g_aload_n k38_39 rfl ?_
    refine g_iload_n k38_40 rfl ?_
    refine g_inv1 k38_41 (hM.1.1) rfl (by decide) (Nat.le_of_ble_eq_true rfl) (c35 (m := chv im b) hM (by omega) x1 x2 ?_)
    refine g_iload_n k38_44 rfl ?_
    refine g_iload_n k38_45 rfl ?_
    refine g_inv2 k38_46 ((hM.2.2.2.1 (chv im b) x2).2.1) rfl rfl (by decide) (Nat.le_of_ble_eq_true rfl) (c76 (c := pl) (hM.2.2.2.1 (chv im b) x2).2 hp (fun j hj e => ?_) (fun hno => ?_))
    · exact g_retz k38_49 rfl (by decide) (h1 (by unfold earB; rw [Bool.or_eq_true]; exact Or.inr (anyN_iff.mpr ⟨j, hj, by simpa using e⟩)))
    · refine g_retz k38_49 rfl (by decide) (h0 ?_)
      cases hb0 : earB im t b pl with
      | false => rfl
      | true =>
        exfalso
        unfold earB at hb0
        rw [Bool.or_eq_true] at hb0
        rcases hb0 with z | z
        · obtain ⟨k, hk, z⟩ := anyN_iff.mp z
          obtain ⟨j, hj, z⟩ := anyN_iff.mp z
          exact hq k hk j hj (by simpa using z)
        · obtain ⟨j, hj, z⟩ := anyN_iff.mp z
          exact hno j hj (by simpa using z)
  | succ n ih =>
    intro i hi u hq
    have hlt : i < b := by omega
    refine g_iload k38_3 rfl ?_
    refine g_iload_n k38_5 rfl ?_
    refine g_icmp_ge k38_6 (fun h => absurd h (nI_ge hlt (by omega))) (fun _ => ?_)
    obtain ⟨⟨x1, x2⟩, ⟨x3, x4⟩, -⟩ := hC i (by omega)
    refine g_aload_n k38_9 rfl ?_
    refine g_iload k38_10 rfl ?_
    refine g_inv1 k38_12 (hM.1.1) rfl (by decide) (Nat.le_of_ble_eq_true rfl) (c35 (m := chv im i) hM (by omega) x1 x2 ?_)
    refine g_astore k38_15 (by decide) rfl ?_
    refine g_aload k38_17 rfl ?_
    refine g_aload k38_19 rfl ?_
    refine g_getv (v := nI (szv im (chv im i))) k38_21 ((hM.2.2.2.1 (chv im i) x2).2.1) (by decide) (x3) ?_
    refine g_iload_n k38_24 rfl ?_
    refine g_inv2 k38_25 ((hM.2.2.2.1 (chv im i) x2).2.1) rfl rfl (by decide) (Nat.le_of_ble_eq_true rfl) (c76 (c := szv im (chv im i)) (hM.2.2.2.1 (chv im i) x2).2 (by unfold szv; omega) (fun q hqq e => ?_) (fun hno => ?_))
    · refine g_if_eq k38_28 (fun h => absurd h (by decide)) (fun _ => ?_)
      refine g_iconst (v := 1) k38_31 ic_1 ?_
      exact g_retz k38_32 rfl (by decide) (h1 (by unfold earB; rw [Bool.or_eq_true]; exact Or.inl (anyN_iff.mpr ⟨i, hlt, anyN_iff.mpr ⟨q, hqq, by simpa using e⟩⟩)))
    · refine g_if_eq k38_28 (fun _ => ?_) (fun h => absurd (by decide) h)
      refine g_iincv (y := nI (i + 1)) k38_33 rfl (by decide) (inc_1 i) rfl ?_
      refine g_goto k38_36 ?_
      exact ih (i + 1) (by omega) _ (fun k hk => by by_cases z : k = i; subst z; exact hno; exact hq k (by omega))

set_option maxRecDepth 20000 in
set_option maxHeartbeats 4000000 in
theorem c38 {LS : Nat} {rm : Nat → Nat → Option Nat} {im : Nat → Nat → Int32} {P : Option Value → (Nat → Nat → Int32) → Prop} {t : Int32} {b pl : Nat} (hM : isLd LS rm) (hC : okC im (b + 1)) (hb : b < 40) (hp : pl ≤ 4) (h1 : earB im t b pl = true → P (some (.int 1)) im) (h0 : earB im t b pl = false → P (some (.int 0)) im) : Gm LS rm 38 0 (en_in 38 [.ref 1, .int t, .int (nI b), .int (nI pl)]) [] im P := by
  show Gm LS rm 38 0 [.ref (1), .int (t), .int (nI b), .int (nI pl), .long 0, .long 0] [] im P
  refine g_iconst (v := 0) k38_0 ic_0 ?_
  refine g_istore k38_1 (by decide) rfl ?_
  exact l38 hM hC hb hp h1 h0 b 0 (by omega) _ (fun k hk => absurd hk (Nat.not_lt_zero k))

set_option maxRecDepth 20000 in
set_option maxHeartbeats 4000000 in
theorem c37 {LS : Nat} {rm : Nat → Nat → Option Nat} {im : Nat → Nat → Int32} {P : Option Value → (Nat → Nat → Int32) → Prop} {s b pl : Nat} (hM : isLd LS rm) (hS : isWS LS rm s) (hC : okC im (b + 1)) (hb : b < 40) (hp : pl < szv im (chv im b)) (h1 : P (some (.int (jdg im s b pl))) im) : Gm LS rm 37 0 (en_in 37 [.ref 1, .ref s, .int (nI b), .int (nI pl)]) [] im P := by
  show Gm LS rm 37 0 [.ref (1), .ref (s), .int (nI b), .int (nI pl), .long 0, .long 0] [] im P
  obtain ⟨⟨x1, x2⟩, ⟨x3, x4⟩, x5⟩ := hC b (by omega)
  obtain ⟨⟨y1, y2⟩, ⟨z1, z2⟩, ⟨w1, w2⟩⟩ := x5 pl hp
  have hs4 : szv im (chv im b) ≤ 4 := by unfold szv; omega
  unfold jdg at h1
  generalize ht : mbv im (chv im b) pl = t at h1 y1 y2 z1 z2 w1 w2
  have y1 : im (2 * chv im b + 211) pl = nI t := by rw [y1]; unfold mbv at ht; rw [ht]
  have y2 : t < 60 := by unfold mbv at ht; rw [← ht]; exact y2
  dsimp only at h1
  refine g_aload_n k37_0 rfl ?_
  refine g_iload_n k37_1 rfl ?_
  refine g_inv1 k37_2 (hM.1.1) rfl (by decide) (Nat.le_of_ble_eq_true rfl) (c35 (m := chv im b) hM (by omega) x1 x2 ?_)
  refine g_getr k37_5 ((hM.2.2.2.1 (chv im b) x2).2.1) (by decide) ((hM.2.2.2.1 (chv im b) x2).2.2.1) ?_
  refine g_iload_n k37_8 rfl ?_
  refine g_ialv (v := nI t) k37_9 ((hM.2.2.2.1 (chv im b) x2).2.2.2) (by omega) (by decide) (y1) ?_
  refine g_istore k37_10 (by decide) rfl ?_
  refine g_aload_n k37_12 rfl ?_
  refine g_getr k37_13 (hM.1.1) (by decide) (hM.1.2.2.1) ?_
  refine g_iload k37_16 rfl ?_
  refine g_aalv (t := 1) k37_18 (hM.1.2.2.2.2.2.2.2.2.2.2.1) ⟨_, rfl⟩ (y2) (by decide) ((hM.2.2.1 t (y2)).1) ?_
  refine g_astore k37_19 (by decide) rfl ?_
  refine g_aload_n k37_21 rfl ?_
  refine g_iload k37_22 rfl ?_
  refine g_iload_n k37_24 rfl ?_
  refine g_iload_n k37_25 rfl ?_
  refine g_inv3 k37_26 (hM.1.1) rfl rfl rfl (by decide) (Nat.le_of_ble_eq_true rfl) (c38 hM hC hb (by omega) (fun he => ?_) (fun he => ?_))
  · rw [if_pos he] at h1
    refine g_if_eq k37_29 (fun h => absurd h (by decide)) (fun _ => ?_)
    refine g_iconst (v := 4) k37_32 ic_4 ?_
    exact g_reti k37_33 rfl (h1)
  · rw [if_neg (by rw [he]; decide)] at h1
    refine g_if_eq k37_29 (fun _ => ?_) (fun h => absurd (by decide) h)
    refine g_aload_n k37_34 rfl ?_
    refine g_getr k37_35 (hM.1.1) (by decide) (hM.1.2.1) ?_
    refine g_aload k37_38 rfl ?_
    refine g_getv (v := nI (prv im t)) k37_40 ((hM.2.2.1 t (y2)).2.1) (by decide) (z1) ?_
    refine g_aalv (t := 0) k37_43 (hM.1.2.2.2.2.2.2.2.2.2.1) ⟨_, rfl⟩ (z2) (by decide) ((hM.2.1 (prv im t) (z2)).1) ?_
    refine g_aload k37_44 rfl ?_
    refine g_geti k37_46 ((hM.2.2.1 t (y2)).2.1) (by decide) ?_
    refine g_inv1 k37_49 ((hM.2.1 (prv im t) (z2)).2.1) rfl (by decide) (Nat.le_of_ble_eq_true rfl) (c45 (h := hgv im (prv im t)) (hM.2.1 (prv im t) z2).2 w1 (by unfold hgv; omega) (fun hz => ?_) (fun hz => ?_))
    · have hmf : metB im (prv im t) (im (3 * t + 30) 2) = false := by unfold metB; rw [hz]; rfl
      rw [if_pos hmf] at h1
      refine g_if_ne k37_52 (fun h => absurd (by decide) h) (fun _ => ?_)
      refine g_iconst (v := 1) k37_55 ic_1 ?_
      exact g_reti k37_56 rfl (h1)
    · by_cases hbit : (im (4 * prv im t + 17) (hgv im (prv im t) - 1) >>> (im (3 * t + 30) 2 &&& 31)) &&& 1 = 1
      · have hmt : metB im (prv im t) (im (3 * t + 30) 2) = true := by unfold metB; rw [Bool.and_eq_true]; exact ⟨decide_eq_true hz, decide_eq_true hbit⟩
        rw [if_neg (by rw [hmt]; decide)] at h1
        show Gm LS rm 37 52 _ [.int (if (im (4 * prv im t + 17) (hgv im (prv im t) - 1) >>> (im (3 * t + 30) 2 &&& 31)) &&& 1 = 1 then 1 else 0)] im P
        rw [if_pos hbit]
        refine g_if_ne k37_52 (fun _ => ?_) (fun h => absurd h (by decide))
        refine g_aload k37_57 rfl ?_
        refine g_getr k37_59 ((hM.2.2.1 t (y2)).2.1) (by decide) ((hM.2.2.1 t (y2)).2.2.1) ?_
        refine g_aload_n k37_62 rfl ?_
        refine g_inv1 k37_63 ((hM.2.2.1 t (y2)).2.2.2.1) rfl (by decide) (Nat.le_of_ble_eq_true rfl) (c66 (hM.2.2.1 t y2).2.2.2 hS (fun hr => ?_) (fun hr => ?_))
        · rw [if_neg (by rw [rowB_t hr]; decide)] at h1
          refine g_if_ne k37_66 (fun _ => ?_) (fun h => absurd h (by decide))
          refine g_aload k37_71 rfl ?_
          refine g_getr k37_73 ((hM.2.2.1 t (y2)).2.1) (by decide) ((hM.2.2.1 t (y2)).2.2.1) ?_
          refine g_aload_n k37_76 rfl ?_
          refine g_inv1 k37_77 ((hM.2.2.1 t (y2)).2.2.2.1) rfl (by decide) (Nat.le_of_ble_eq_true rfl) (c67 (hM.2.2.1 t y2).2.2.2 hS (fun q1 q2 => ?_) (fun qn => ?_))
          · rw [if_pos ⟨rowB_t q1, rowB_t q2⟩] at h1
            refine g_if_eq k37_80 (fun h => absurd h (by decide)) (fun _ => ?_)
            refine g_iconst (v := 0) k37_83 ic_0 ?_
            refine g_goto k37_84 ?_
            exact g_reti k37_88 rfl (h1)
          · rw [if_neg (fun z => qn ⟨fun k hk => by simpa using allN_iff.mp z.1 k hk, fun k hk => by simpa using allN_iff.mp z.2 k hk⟩)] at h1
            refine g_if_eq k37_80 (fun _ => ?_) (fun h => absurd (by decide) h)
            refine g_iconst (v := 3) k37_87 ic_3 ?_
            exact g_reti k37_88 rfl (h1)
        · rw [if_pos (rowB_f hr)] at h1
          refine g_if_ne k37_66 (fun h => absurd (by decide) h) (fun _ => ?_)
          refine g_iconst (v := 2) k37_69 ic_2 ?_
          exact g_reti k37_70 rfl (h1)
      · have hmf : metB im (prv im t) (im (3 * t + 30) 2) = false := by unfold metB; simp [hbit]
        rw [if_pos hmf] at h1
        show Gm LS rm 37 52 _ [.int (if (im (4 * prv im t + 17) (hgv im (prv im t) - 1) >>> (im (3 * t + 30) 2 &&& 31)) &&& 1 = 1 then 1 else 0)] im P
        rw [if_neg hbit]
        refine g_if_ne k37_52 (fun h => absurd (by decide) h) (fun _ => ?_)
        refine g_iconst (v := 1) k37_55 ic_1 ?_
        exact g_reti k37_56 rfl (h1)

