/-! CONSTRUCTORS of the parts *-/
def fF (a : Nat) (im : Nat → Nat → Int32) (rm : Nat → Nat → Option Nat) (im' : Nat → Nat → Int32) (rm' : Nat → Nat → Option Nat) : Prop := ∀ c, c < a → im' c = im c ∧ rm' c = rm c
set_option maxRecDepth 20000 in
set_option maxHeartbeats 4000000 in
theorem nl58 {LS B a : Nat} {im : Nat → Nat → Int32} {rm : Nat → Nat → Option Nat} {P : Option Value → (Nat → Nat → Int32) → (Nat → Nat → Option Nat) → Prop} (hB : B ≤ 410) (s0 : (SH LS)[a]? = some (3, 2)) (s1 : (SH LS)[a + 1]? = some (100, 80)) (ha : a + 1 < B) (hr : rm a 0 = some (a + 1)) (h1 : P none (en_u2 (en_ur im (a + 1) (rs_clr 80 (im (a + 1)))) a 1 0) rm) : ∀ (n i : Nat), i + n = 80 → Cn LS B 58 2 [.ref a, .int (nI i)] [] B (en_ur im (a + 1) (rs_clr i (im (a + 1)))) rm P := by
  intro n
  induction n with
  | zero =>
    intro i hi
    have hie : i = 80 := by omega
    subst hie
    refine c_iload_n k58_2 rfl ?_
    refine c_bipush (v := 80) k58_3 bp_80 ?_
    refine c_icmp_ge k58_5 (fun _ => ?_) (fun h => absurd (nI_le (Nat.le_refl _) (by decide)) h)
    refine c_aload_n k58_31 rfl ?_
    refine c_iconst (v := 0) k58_32 ic_0 ?_
    refine c_puti k58_33 (by decide) s0 (by omega) (by decide) ?_
    exact c_retv k58_36 rfl rfl hB h1
  | succ n ih =>
    intro i hi
    have hlt : i < 80 := by omega
    refine c_iload_n k58_2 rfl ?_
    refine c_bipush (v := 80) k58_3 bp_80 ?_
    refine c_icmp_ge k58_5 (fun h => absurd h (nI_ge hlt (by decide))) (fun _ => ?_)
    refine c_aload_n k58_8 rfl ?_
    refine c_getr k58_9 s0 (by omega) (by decide) hr ?_
    refine c_iload_n k58_12 rfl ?_
    refine c_iload_n k58_13 rfl ?_
    refine c_bipush (v := 48) k58_14 bp_48 ?_
    refine c_icmp_ge k58_16 (fun h => ?_) (fun h => ?_)
    · have h48 : ¬ i < 48 := fun z => nI_ge z (by decide) h
      refine c_iconst (v := 0) k58_23 ic_0 ?_
      refine c_iasv k58_24 s1 ha hlt (by decide) ?_
      rw [ur_u2, rs_clr_s (by rw [if_neg h48])]
      refine c_iincv (y := nI (i + 1)) k58_25 rfl (by decide) (inc_1 i) rfl ?_
      refine c_goto k58_28 ?_
      exact ih (i + 1) (by omega)
    · have h48 : i < 48 := Nat.not_le.mp (fun z => h (nI_le z (by omega)))
      refine c_iconst (v := -1) k58_19 ic_m1 ?_
      refine c_goto k58_20 ?_
      refine c_iasv k58_24 s1 ha hlt (by decide) ?_
      rw [ur_u2, rs_clr_s (by rw [if_pos h48])]
      refine c_iincv (y := nI (i + 1)) k58_25 rfl (by decide) (inc_1 i) rfl ?_
      refine c_goto k58_28 ?_
      exact ih (i + 1) (by omega)
set_option maxRecDepth 20000 in
set_option maxHeartbeats 4000000 in
theorem n58 {LS B a : Nat} {im : Nat → Nat → Int32} {rm : Nat → Nat → Option Nat} {P : Option Value → (Nat → Nat → Int32) → (Nat → Nat → Option Nat) → Prop} (hB : B ≤ 410) (s0 : (SH LS)[a]? = some (3, 2)) (s1 : (SH LS)[a + 1]? = some (100, 80)) (ha : a + 1 < B) (hr : rm a 0 = some (a + 1)) (h1 : P none (en_u2 (en_ur im (a + 1) (rs_clr 80 (im (a + 1)))) a 1 0) rm) : Cn LS B 58 0 (en_in 58 [.ref a]) [] B im rm P := by
  show Cn LS B 58 0 [.ref a, .long 0] [] B im rm P
  refine c_iconst (v := 0) k58_0 ic_0 ?_
  refine c_istore_n k58_1 (by decide) rfl ?_
  have := nl58 hB s0 s1 ha hr h1 80 0 (by decide)
  rw [rs_clr_0, ur_self] at this
  exact this
set_option maxRecDepth 20000 in
set_option maxHeartbeats 4000000 in
theorem n77 {LS a : Nat} {im : Nat → Nat → Int32} {rm : Nat → Nat → Option Nat} {P : Option Value → (Nat → Nat → Int32) → (Nat → Nat → Option Nat) → Prop} (ha : 1 ≤ a) (hB : a + 2 ≤ 410) (s0 : (SH LS)[a]? = some (6, 2)) (s1 : (SH LS)[a + 1]? = some (100, 40)) (hz : im a = fun _ => 0) (h : ∀ im' rm', fF a im rm im' rm' → (∀ i, i < 2 → ∀ k, im' (a + i) k = 0) → (rm' a 0 = some (a + 1)) → P none im' rm') : Cn LS (a + 2) 77 0 (en_in 77 [.ref a]) [] (a + 1) im rm P := by
  show Cn LS (a + 2) 77 0 [.ref a] [] (a + 1) im rm P
  refine c_aload_n k77_0 rfl ?_
  refine c_obj k77_1 (by omega) (Nat.le_of_ble_eq_true rfl) ?_
  refine c_aload_n k77_4 rfl ?_
  refine c_bipush (v := 40) k77_5 bp_40 ?_
  refine c_newi (n := 40) (b2 := a + 2) k77_7 rfl s1 (by decide) (by omega) (by omega) (by omega) rfl ?_
  refine c_putr k77_9 (Or.inr ⟨_, rfl⟩) (by decide) s0 (by omega) (by decide) ?_
  refine c_aload_n k77_12 rfl ?_
  refine c_iconst (v := 0) k77_13 ic_0 ?_
  refine c_puti k77_14 (by decide) s0 (by omega) (by decide) ?_
  refine c_retv k77_17 rfl rfl hB ?_
  refine h _ _ (fun c hc => by constructor <;> (funext k; simp [en_u2, en_ur, show c ≠ a by omega, show c ≠ a + 1 by omega])) (fun i hi k => ?_) (by simp [en_u2, en_ur])
  rcases (show i = 0 ∨ i = 1 by omega) with rfl | rfl
  · simp [en_u2, en_ur, hz]
  · simp [en_u2, en_ur, hz]

set_option maxRecDepth 20000 in
set_option maxHeartbeats 4000000 in
theorem n82 {LS a : Nat} {im : Nat → Nat → Int32} {rm : Nat → Nat → Option Nat} {P : Option Value → (Nat → Nat → Int32) → (Nat → Nat → Option Nat) → Prop} (ha : 1 ≤ a) (hB : a + 3 ≤ 410) (s0 : (SH LS)[a]? = some (8, 3)) (s1 : (SH LS)[a + 1]? = some (100, 16)) (s2 : (SH LS)[a + 2]? = some (100, 16)) (hz : im a = fun _ => 0) (h : ∀ im' rm', fF a im rm im' rm' → (∀ i, i < 3 → ∀ k, im' (a + i) k = 0) → (rm' a 0 = some (a + 1)) → (rm' a 1 = some (a + 2)) → P none im' rm') : Cn LS (a + 3) 82 0 (en_in 82 [.ref a]) [] (a + 1) im rm P := by
  show Cn LS (a + 3) 82 0 [.ref a] [] (a + 1) im rm P
  refine c_aload_n k82_0 rfl ?_
  refine c_obj k82_1 (by omega) (Nat.le_of_ble_eq_true rfl) ?_
  refine c_aload_n k82_4 rfl ?_
  refine c_bipush (v := 16) k82_5 bp_16 ?_
  refine c_newi (n := 16) (b2 := a + 2) k82_7 rfl s1 (by decide) (by omega) (by omega) (by omega) rfl ?_
  refine c_putr k82_9 (Or.inr ⟨_, rfl⟩) (by decide) s0 (by omega) (by decide) ?_
  refine c_aload_n k82_12 rfl ?_
  refine c_bipush (v := 16) k82_13 bp_16 ?_
  refine c_newi (n := 16) (b2 := a + 3) k82_15 rfl s2 (by decide) (by omega) (by omega) (by omega) rfl ?_
  refine c_putr k82_17 (Or.inr ⟨_, rfl⟩) (by decide) s0 (by omega) (by decide) ?_
  refine c_aload_n k82_20 rfl ?_
  refine c_iconst (v := 0) k82_21 ic_0 ?_
  refine c_puti k82_22 (by decide) s0 (by omega) (by decide) ?_
  refine c_retv k82_25 rfl rfl hB ?_
  refine h _ _ (fun c hc => by constructor <;> (funext k; simp [en_u2, en_ur, show c ≠ a by omega, show c ≠ a + 1 by omega, show c ≠ a + 2 by omega])) (fun i hi k => ?_) (by simp [en_u2, en_ur]) (by simp [en_u2, en_ur])
  rcases (show i = 0 ∨ i = 1 ∨ i = 2 by omega) with rfl | rfl | rfl
  · simp [en_u2, en_ur, hz]
  · simp [en_u2, en_ur, hz]
  · simp [en_u2, en_ur, hz]

set_option maxRecDepth 20000 in
set_option maxHeartbeats 4000000 in
theorem n73 {LS a : Nat} {im : Nat → Nat → Int32} {rm : Nat → Nat → Option Nat} {P : Option Value → (Nat → Nat → Int32) → (Nat → Nat → Option Nat) → Prop} (ha : 1 ≤ a) (hB : a + 2 ≤ 410) (s0 : (SH LS)[a]? = some (5, 3)) (s1 : (SH LS)[a + 1]? = some (100, 4)) (hz : im a = fun _ => 0) (h : ∀ im' rm', fF a im rm im' rm' → (∀ i, i < 2 → ∀ k, im' (a + i) k = 0) → (rm' a 0 = some (a + 1)) → P none im' rm') : Cn LS (a + 2) 73 0 (en_in 73 [.ref a]) [] (a + 1) im rm P := by
  show Cn LS (a + 2) 73 0 [.ref a] [] (a + 1) im rm P
  refine c_aload_n k73_0 rfl ?_
  refine c_obj k73_1 (by omega) (Nat.le_of_ble_eq_true rfl) ?_
  refine c_aload_n k73_4 rfl ?_
  refine c_iconst (v := 4) k73_5 ic_4 ?_
  refine c_newi (n := 4) (b2 := a + 2) k73_6 rfl s1 (by decide) (by omega) (by omega) (by omega) rfl ?_
  refine c_putr k73_8 (Or.inr ⟨_, rfl⟩) (by decide) s0 (by omega) (by decide) ?_
  refine c_aload_n k73_11 rfl ?_
  refine c_iconst (v := 0) k73_12 ic_0 ?_
  refine c_puti k73_13 (by decide) s0 (by omega) (by decide) ?_
  refine c_aload_n k73_16 rfl ?_
  refine c_iconst (v := 0) k73_17 ic_0 ?_
  refine c_puti k73_18 (by decide) s0 (by omega) (by decide) ?_
  refine c_retv k73_21 rfl rfl hB ?_
  refine h _ _ (fun c hc => by constructor <;> (funext k; simp [en_u2, en_ur, show c ≠ a by omega, show c ≠ a + 1 by omega])) (fun i hi k => ?_) (by simp [en_u2, en_ur])
  rcases (show i = 0 ∨ i = 1 by omega) with rfl | rfl
  · simp [en_u2, en_ur, hz]
  · simp [en_u2, en_ur, hz]

set_option maxRecDepth 20000 in
set_option maxHeartbeats 4000000 in
theorem n39 {LS a : Nat} {im : Nat → Nat → Int32} {rm : Nat → Nat → Option Nat} {P : Option Value → (Nat → Nat → Int32) → (Nat → Nat → Option Nat) → Prop} (ha : 1 ≤ a) (hB : a + 4 ≤ 410) (s0 : (SH LS)[a]? = some (1, 6)) (s1 : (SH LS)[a + 1]? = some (100, 12)) (s2 : (SH LS)[a + 2]? = some (100, 12)) (s3 : (SH LS)[a + 3]? = some (100, 9)) (hz : im a = fun _ => 0) (h : ∀ im' rm', fF a im rm im' rm' → (∀ i, i < 4 → ∀ k, im' (a + i) k = 0) → (rm' a 0 = some (a + 1)) → (rm' a 1 = some (a + 2)) → (rm' a 3 = some (a + 3)) → P none im' rm') : Cn LS (a + 4) 39 0 (en_in 39 [.ref a]) [] (a + 1) im rm P := by
  show Cn LS (a + 4) 39 0 [.ref a] [] (a + 1) im rm P
  refine c_aload_n k39_0 rfl ?_
  refine c_obj k39_1 (by omega) (Nat.le_of_ble_eq_true rfl) ?_
  refine c_aload_n k39_4 rfl ?_
  refine c_bipush (v := 12) k39_5 bp_12 ?_
  refine c_newi (n := 12) (b2 := a + 2) k39_7 rfl s1 (by decide) (by omega) (by omega) (by omega) rfl ?_
  refine c_putr k39_9 (Or.inr ⟨_, rfl⟩) (by decide) s0 (by omega) (by decide) ?_
  refine c_aload_n k39_12 rfl ?_
  refine c_bipush (v := 12) k39_13 bp_12 ?_
  refine c_newi (n := 12) (b2 := a + 3) k39_15 rfl s2 (by decide) (by omega) (by omega) (by omega) rfl ?_
  refine c_putr k39_17 (Or.inr ⟨_, rfl⟩) (by decide) s0 (by omega) (by decide) ?_
  refine c_aload_n k39_20 rfl ?_
  refine c_iconst (v := 0) k39_21 ic_0 ?_
  refine c_puti k39_22 (by decide) s0 (by omega) (by decide) ?_
  refine c_aload_n k39_25 rfl ?_
  refine c_bipush (v := 9) k39_26 bp_9 ?_
  refine c_newi (n := 9) (b2 := a + 4) k39_28 rfl s3 (by decide) (by omega) (by omega) (by omega) rfl ?_
  refine c_putr k39_30 (Or.inr ⟨_, rfl⟩) (by decide) s0 (by omega) (by decide) ?_
  refine c_aload_n k39_33 rfl ?_
  refine c_iconst (v := 0) k39_34 ic_0 ?_
  refine c_puti k39_35 (by decide) s0 (by omega) (by decide) ?_
  refine c_aload_n k39_38 rfl ?_
  refine c_iconst (v := 0) k39_39 ic_0 ?_
  refine c_puti k39_40 (by decide) s0 (by omega) (by decide) ?_
  refine c_retv k39_43 rfl rfl hB ?_
  refine h _ _ (fun c hc => by constructor <;> (funext k; simp [en_u2, en_ur, show c ≠ a by omega, show c ≠ a + 1 by omega, show c ≠ a + 2 by omega, show c ≠ a + 3 by omega])) (fun i hi k => ?_) (by simp [en_u2, en_ur]) (by simp [en_u2, en_ur]) (by simp [en_u2, en_ur])
  rcases (show i = 0 ∨ i = 1 ∨ i = 2 ∨ i = 3 by omega) with rfl | rfl | rfl | rfl
  · simp [en_u2, en_ur, hz]
  · simp [en_u2, en_ur, hz]
  · simp [en_u2, en_ur, hz]
  · simp [en_u2, en_ur, hz]

set_option maxRecDepth 20000 in
set_option maxHeartbeats 4000000 in
theorem n57 {LS a : Nat} {im : Nat → Nat → Int32} {rm : Nat → Nat → Option Nat} {P : Option Value → (Nat → Nat → Int32) → (Nat → Nat → Option Nat) → Prop} (ha : 1 ≤ a) (hB : a + 2 ≤ 410) (s0 : (SH LS)[a]? = some (3, 2)) (s1 : (SH LS)[a + 1]? = some (100, 80)) (hz : im a = fun _ => 0) (h : ∀ im' rm', fF a im rm im' rm' → (∀ k, im' a k = 0) → (∀ k, im' (a + 1) k = if k < 48 then -1 else 0) → (rm' a 0 = some (a + 1)) → P none im' rm') : Cn LS (a + 2) 57 0 (en_in 57 [.ref a]) [] (a + 1) im rm P := by
  show Cn LS (a + 2) 57 0 [.ref a] [] (a + 1) im rm P
  refine c_aload_n k57_0 rfl ?_
  refine c_obj k57_1 (by omega) (Nat.le_of_ble_eq_true rfl) ?_
  refine c_aload_n k57_4 rfl ?_
  refine c_bipush (v := 80) k57_5 bp_80 ?_
  refine c_newi (n := 80) (b2 := a + 2) k57_7 rfl s1 (by decide) (by omega) (by omega) (by omega) rfl ?_
  refine c_putr k57_9 (Or.inr ⟨_, rfl⟩) (by decide) s0 (by omega) (by decide) ?_
  refine c_aload_n k57_12 rfl ?_
  refine c_iconst (v := 0) k57_13 ic_0 ?_
  refine c_puti k57_14 (by decide) s0 (by omega) (by decide) ?_
  refine c_aload_n k57_17 rfl ?_
  refine c_inv0 k57_18 s0 (by omega) (by decide) (Nat.le_of_ble_eq_true rfl) (by omega) (by omega) (n58 (by omega) s0 s1 (by omega) (by simp [en_u2]) ?_)
  refine c_retv k57_21 rfl rfl hB ?_
  refine h _ _ (fun c hc => by constructor <;> (funext k; simp [en_u2, en_ur, show c ≠ a by omega, show c ≠ a + 1 by omega])) (fun k => by simp [en_u2, en_ur, hz]) (fun k => ?_) (by simp [en_u2, en_ur])
  rw [u2_ne (by omega), ur_eq]
  unfold rs_clr
  by_cases z : k < 80
  · rw [if_pos z]
  · rw [if_neg z, if_neg (by omega), u2_ne (by omega), ur_eq]

set_option maxRecDepth 20000 in
set_option maxHeartbeats 4000000 in
theorem n46 {LS a : Nat} {im : Nat → Nat → Int32} {rm : Nat → Nat → Option Nat} {P : Option Value → (Nat → Nat → Int32) → (Nat → Nat → Option Nat) → Prop} (ha : 1 ≤ a) (hB : a + 4 ≤ 410) (s0 : (SH LS)[a]? = some (2, 5)) (s1 : (SH LS)[a + 1]? = some (100, 8)) (s2 : (SH LS)[a + 2]? = some (3, 2)) (s3 : (SH LS)[a + 3]? = some (100, 80)) (hz : im a = fun _ => 0) (h : ∀ im' rm', fF a im rm im' rm' → (∀ k, im' a k = 0) → (∀ k, im' (a + 1) k = 0) → (∀ k, im' (a + 2) k = 0) → (∀ k, im' (a + 3) k = if k < 48 then -1 else 0) → (rm' a 0 = some (a + 1)) → (rm' a 1 = some (a + 2)) → (rm' (a + 2) 0 = some (a + 3)) → P none im' rm') : Cn LS (a + 4) 46 0 (en_in 46 [.ref a]) [] (a + 1) im rm P := by
  show Cn LS (a + 4) 46 0 [.ref a] [] (a + 1) im rm P
  refine c_aload_n k46_0 rfl ?_
  refine c_obj k46_1 (by omega) (Nat.le_of_ble_eq_true rfl) ?_
  refine c_aload_n k46_4 rfl ?_
  refine c_bipush (v := 8) k46_5 bp_8 ?_
  refine c_newi (n := 8) (b2 := a + 2) k46_7 rfl s1 (by decide) (by omega) (by omega) (by omega) rfl ?_
  refine c_putr k46_9 (Or.inr ⟨_, rfl⟩) (by decide) s0 (by omega) (by decide) ?_
  refine c_aload_n k46_12 rfl ?_
  refine c_new (b2 := a + 3) k46_13 rfl s2 (by omega) (by omega) (by omega) rfl ?_
  refine c_dup k46_16 rfl ?_
  refine c_invI (B' := a + 4) k46_17 (by omega) (by decide) (Nat.le_of_ble_eq_true rfl) (by omega) (by omega) (by omega) (n57 (by omega) (by omega) s2 s3 (by rw [ur_eq]) (fun im1 rm1 f0 f1 f2 f3 => ⟨rfl, ?_⟩))
  refine c_putr k46_20 (Or.inl ⟨_, rfl⟩) (by decide) s0 (by omega) (by decide) ?_
  refine c_aload_n k46_23 rfl ?_
  refine c_iconst (v := 0) k46_24 ic_0 ?_
  refine c_puti k46_25 (by decide) s0 (by omega) (by decide) ?_
  refine c_aload_n k46_28 rfl ?_
  refine c_iconst (v := 0) k46_29 ic_0 ?_
  refine c_puti k46_30 (by decide) s0 (by omega) (by decide) ?_
  refine c_aload_n k46_33 rfl ?_
  refine c_iconst (v := 0) k46_34 ic_0 ?_
  refine c_putz k46_35 (by decide) s0 (by omega) (by decide) (by decide) ?_
  refine c_retv k46_38 rfl rfl hB ?_
  have g0 := f0 a (by omega)
  have g1 := f0 (a + 1) (by omega)
  refine h _ _ (fun c hc => ?_) (fun k => ?_) (fun k => ?_) (fun k => ?_) (fun k => ?_) ?_ ?_ ?_
  · have g := f0 c (by omega)
    constructor
    · funext k; simp [en_u2, g.1, en_ur, show c ≠ a by omega, show c ≠ a + 1 by omega, show c ≠ a + 2 by omega, show c ≠ a + 3 by omega]
    · funext k; simp [en_u2, g.2, en_ur, show c ≠ a by omega, show c ≠ a + 1 by omega, show c ≠ a + 2 by omega, show c ≠ a + 3 by omega]
  · simp [en_u2, g0.1, en_ur, hz]
  · simp [en_u2, g1.1, en_ur]
  · have := f1 k; simp [en_u2] at this ⊢; exact this
  · have := f2 k; simp [en_u2] at this ⊢; exact this
  · simp [en_u2, g0.2, en_ur]
  · simp [en_u2]
  · have := f3; simp [en_u2] at this ⊢; exact this

set_option maxRecDepth 20000 in
set_option maxHeartbeats 4000000 in
theorem n70 {LS a : Nat} {im : Nat → Nat → Int32} {rm : Nat → Nat → Option Nat} {P : Option Value → (Nat → Nat → Int32) → (Nat → Nat → Option Nat) → Prop} (ha : 1 ≤ a) (hB : a + 3 ≤ 410) (s0 : (SH LS)[a]? = some (4, 5)) (s1 : (SH LS)[a + 1]? = some (3, 2)) (s2 : (SH LS)[a + 2]? = some (100, 80)) (hz : im a = fun _ => 0) (h : ∀ im' rm', fF a im rm im' rm' → (∀ k, im' a k = 0) → (∀ k, im' (a + 1) k = 0) → (∀ k, im' (a + 2) k = if k < 48 then -1 else 0) → (rm' a 4 = some (a + 1)) → (rm' (a + 1) 0 = some (a + 2)) → P none im' rm') : Cn LS (a + 3) 70 0 (en_in 70 [.ref a]) [] (a + 1) im rm P := by
  show Cn LS (a + 3) 70 0 [.ref a] [] (a + 1) im rm P
  refine c_aload_n k70_0 rfl ?_
  refine c_obj k70_1 (by omega) (Nat.le_of_ble_eq_true rfl) ?_
  refine c_aload_n k70_4 rfl ?_
  refine c_iconst (v := 0) k70_5 ic_0 ?_
  refine c_puti k70_6 (by decide) s0 (by omega) (by decide) ?_
  refine c_aload_n k70_9 rfl ?_
  refine c_iconst (v := 0) k70_10 ic_0 ?_
  refine c_puti k70_11 (by decide) s0 (by omega) (by decide) ?_
  refine c_aload_n k70_14 rfl ?_
  refine c_iconst (v := 0) k70_15 ic_0 ?_
  refine c_puti k70_16 (by decide) s0 (by omega) (by decide) ?_
  refine c_aload_n k70_19 rfl ?_
  refine c_iconst (v := 0) k70_20 ic_0 ?_
  refine c_putz k70_21 (by decide) s0 (by omega) (by decide) (by decide) ?_
  refine c_aload_n k70_24 rfl ?_
  refine c_new (b2 := a + 2) k70_25 rfl s1 (by omega) (by omega) (by omega) rfl ?_
  refine c_dup k70_28 rfl ?_
  refine c_invI (B' := a + 3) k70_29 (by omega) (by decide) (Nat.le_of_ble_eq_true rfl) (by omega) (by omega) (by omega) (n57 (by omega) (by omega) s1 s2 (by rw [ur_eq]) (fun im1 rm1 f0 f1 f2 f3 => ⟨rfl, ?_⟩))
  refine c_putr k70_32 (Or.inl ⟨_, rfl⟩) (by decide) s0 (by omega) (by decide) ?_
  refine c_retv k70_35 rfl rfl hB ?_
  have g0 := f0 a (by omega)
  refine h _ _ (fun c hc => ?_) (fun k => ?_) (fun k => ?_) (fun k => ?_) ?_ ?_
  · have g := f0 c (by omega)
    constructor
    · funext k; simp [en_u2, g.1, en_ur, show c ≠ a by omega, show c ≠ a + 1 by omega, show c ≠ a + 2 by omega]
    · funext k; simp [en_u2, g.2, en_ur, show c ≠ a by omega, show c ≠ a + 1 by omega, show c ≠ a + 2 by omega]
  · simp [en_u2, g0.1, en_ur, hz]
  · exact f1 k
  · exact f2 k
  · simp [en_u2]
  · have := f3; simp [en_u2] at this ⊢; exact this

set_option maxRecDepth 20000 in
set_option maxHeartbeats 4000000 in
theorem n81 {LS a : Nat} {im : Nat → Nat → Int32} {rm : Nat → Nat → Option Nat} {P : Option Value → (Nat → Nat → Int32) → (Nat → Nat → Option Nat) → Prop} (ha : 1 ≤ a) (hB : a + 3 ≤ 410) (s0 : (SH LS)[a]? = some (7, 3)) (s1 : (SH LS)[a + 1]? = some (6, 2)) (s2 : (SH LS)[a + 2]? = some (100, 40)) (hz : im a = fun _ => 0) (h : ∀ im' rm', fF a im rm im' rm' → (∀ k, im' a k = if k = 0 then 1 else 0) → (∀ k, im' (a + 1) k = 0) → (∀ k, im' (a + 2) k = 0) → (rm' a 2 = some (a + 1)) → (rm' (a + 1) 0 = some (a + 2)) → P none im' rm') : Cn LS (a + 3) 81 0 (en_in 81 [.ref a]) [] (a + 1) im rm P := by
  show Cn LS (a + 3) 81 0 [.ref a] [] (a + 1) im rm P
  refine c_aload_n k81_0 rfl ?_
  refine c_obj k81_1 (by omega) (Nat.le_of_ble_eq_true rfl) ?_
  refine c_aload_n k81_4 rfl ?_
  refine c_iconst (v := 1) k81_5 ic_1 ?_
  refine c_putz k81_6 (by decide) s0 (by omega) (by decide) (by decide) ?_
  refine c_aload_n k81_9 rfl ?_
  refine c_iconst (v := 0) k81_10 ic_0 ?_
  refine c_puti k81_11 (by decide) s0 (by omega) (by decide) ?_
  refine c_aload_n k81_14 rfl ?_
  refine c_new (b2 := a + 2) k81_15 rfl s1 (by omega) (by omega) (by omega) rfl ?_
  refine c_dup k81_18 rfl ?_
  refine c_invI (B' := a + 3) k81_19 (by omega) (by decide) (Nat.le_of_ble_eq_true rfl) (by omega) (by omega) (by omega) (n77 (by omega) (by omega) s1 s2 (by rw [ur_eq]) (fun im1 rm1 f0 f1 f3 => ⟨rfl, ?_⟩))
  refine c_putr k81_22 (Or.inl ⟨_, rfl⟩) (by decide) s0 (by omega) (by decide) ?_
  refine c_retv k81_25 rfl rfl hB ?_
  have g0 := f0 a (by omega)
  refine h _ _ (fun c hc => ?_) (fun k => ?_) (fun k => ?_) (fun k => ?_) ?_ ?_
  · have g := f0 c (by omega)
    constructor
    · funext k; simp [en_u2, g.1, en_ur, show c ≠ a by omega, show c ≠ a + 1 by omega, show c ≠ a + 2 by omega]
    · funext k; simp [en_u2, g.2, en_ur, show c ≠ a by omega, show c ≠ a + 1 by omega, show c ≠ a + 2 by omega]
  · by_cases z : k = 0 <;> simp [en_u2, g0.1, en_ur, hz, z]
  · exact f1 0 (by omega) k
  · exact f1 1 (by omega) k
  · simp [en_u2]
  · have := f3; simp [en_u2] at this ⊢; exact this

set_option maxRecDepth 20000 in
set_option maxHeartbeats 4000000 in
theorem n84 {LS a : Nat} {im : Nat → Nat → Int32} {rm : Nat → Nat → Option Nat} {P : Option Value → (Nat → Nat → Int32) → (Nat → Nat → Option Nat) → Prop} (ha : 1 ≤ a) (hB : a + 8 ≤ 410) (s0 : (SH LS)[a]? = some (9, 5)) (s1 : (SH LS)[a + 1]? = some (8, 3)) (s2 : (SH LS)[a + 2]? = some (100, 16)) (s3 : (SH LS)[a + 3]? = some (100, 16)) (s4 : (SH LS)[a + 4]? = some (8, 3)) (s5 : (SH LS)[a + 5]? = some (100, 16)) (s6 : (SH LS)[a + 6]? = some (100, 16)) (s7 : (SH LS)[a + 7]? = some (100, 160)) (hz : im a = fun _ => 0) (h : ∀ im' rm', fF a im rm im' rm' → (∀ k, im' a k = if k = 0 then 1 else 0) → (∀ i, 0 < i → i < 8 → ∀ k, im' (a + i) k = 0) → (rm' a 2 = some (a + 1)) → (rm' a 3 = some (a + 4)) → (rm' a 4 = some (a + 7)) → (rm' (a + 1) 0 = some (a + 2)) → (rm' (a + 1) 1 = some (a + 3)) → (rm' (a + 4) 0 = some (a + 5)) → (rm' (a + 4) 1 = some (a + 6)) → P none im' rm') : Cn LS (a + 8) 84 0 (en_in 84 [.ref a]) [] (a + 1) im rm P := by
  show Cn LS (a + 8) 84 0 [.ref a] [] (a + 1) im rm P
  refine c_aload_n k84_0 rfl ?_
  refine c_obj k84_1 (by omega) (Nat.le_of_ble_eq_true rfl) ?_
  refine c_aload_n k84_4 rfl ?_
  refine c_iconst (v := 1) k84_5 ic_1 ?_
  refine c_putz k84_6 (by decide) s0 (by omega) (by decide) (by decide) ?_
  refine c_aload_n k84_9 rfl ?_
  refine c_iconst (v := 0) k84_10 ic_0 ?_
  refine c_puti k84_11 (by decide) s0 (by omega) (by decide) ?_
  refine c_aload_n k84_14 rfl ?_
  refine c_new (b2 := a + 2) k84_15 rfl s1 (by omega) (by omega) (by omega) rfl ?_
  refine c_dup k84_18 rfl ?_
  refine c_invI (B' := a + 4) k84_19 (by omega) (by decide) (Nat.le_of_ble_eq_true rfl) (by omega) (by omega) (by omega) (n82 (by omega) (by omega) s1 s2 s3 (by rw [ur_eq]) (fun im1 rm1 f0 f1 f2 f3 => ⟨rfl, ?_⟩))
  refine c_putr k84_22 (Or.inl ⟨_, rfl⟩) (by decide) s0 (by omega) (by decide) ?_
  refine c_aload_n k84_25 rfl ?_
  refine c_new (b2 := a + 5) k84_26 rfl s4 (by omega) (by omega) (by omega) rfl ?_
  refine c_dup k84_29 rfl ?_
  refine c_invI (B' := a + 7) k84_30 (by omega) (by decide) (Nat.le_of_ble_eq_true rfl) (by omega) (by omega) (by omega) (n82 (by omega) (by omega) s4 s5 s6 (by rw [ur_eq]) (fun im2 rm2 e0 e1 e2 e3 => ⟨rfl, ?_⟩))
  refine c_putr k84_33 (Or.inl ⟨_, rfl⟩) (by decide) s0 (by omega) (by decide) ?_
  refine c_aload_n k84_36 rfl ?_
  refine c_sipush (v := 160) k84_37 sp_160 ?_
  refine c_newi (n := 160) (b2 := a + 8) k84_40 rfl s7 (by decide) (by omega) (by omega) (by omega) rfl ?_
  refine c_putr k84_42 (Or.inr ⟨_, rfl⟩) (by decide) s0 (by omega) (by decide) ?_
  refine c_retv k84_45 rfl rfl hB ?_
  have I : ∀ c, c < a + 4 → im2 c = im1 c := fun c hc => by rw [(e0 c hc).1, ur_ne (by omega)]
  have R : ∀ c, c < a + 4 → c ≠ a → rm2 c = rm1 c := fun c hc hne => by rw [(e0 c hc).2, ur_ne (by omega), en_u2_off hne]
  have Ra : ∀ k, k ≠ 2 → rm2 a k = rm1 a k := fun k hk => by rw [(e0 a (by omega)).2, ur_ne (by omega), u2_ne (Or.inr hk)]
  have Ra2 : rm2 a 2 = some (a + 1) := by rw [(e0 a (by omega)).2, ur_ne (by omega), u2_eq]
  refine h _ _ (fun c hc => ?_) (fun k => ?_) (fun i hi0 hi k => ?_) ?_ ?_ ?_ ?_ ?_ ?_ ?_
  · have g := f0 c (by omega)
    constructor
    · rw [ur_ne (by omega), I c (by omega), g.1, ur_ne (by omega), en_u2_off (by omega), en_u2_off (by omega)]
    · rw [en_u2_off (by omega), ur_ne (by omega), en_u2_off (by omega), R c (by omega) (by omega), g.2, ur_ne (by omega)]
  · rw [ur_ne (by omega), I a (by omega), (f0 a (by omega)).1, ur_ne (by omega)]
    by_cases z : k = 0 <;> simp [en_u2, hz, z]
  · rcases (show i = 1 ∨ i = 2 ∨ i = 3 ∨ i = 4 ∨ i = 5 ∨ i = 6 ∨ i = 7 by omega) with rfl | rfl | rfl | rfl | rfl | rfl | rfl
    · rw [ur_ne (by omega), I _ (by omega)]; exact f1 0 (by omega) k
    · rw [ur_ne (by omega), I _ (by omega)]; exact f1 1 (by omega) k
    · rw [ur_ne (by omega), I _ (by omega)]; exact f1 2 (by omega) k
    · rw [ur_ne (by omega)]; exact e1 0 (by omega) k
    · rw [ur_ne (by omega)]; exact e1 1 (by omega) k
    · rw [ur_ne (by omega)]; exact e1 2 (by omega) k
    · rw [ur_eq]
  · rw [u2_ne (by omega), ur_ne (by omega), u2_ne (by omega)]; exact Ra2
  · rw [u2_ne (by omega), ur_ne (by omega), u2_eq]
  · rw [u2_eq]
  · rw [en_u2_off (by omega), ur_ne (by omega), en_u2_off (by omega), R _ (by omega) (by omega)]; exact f2
  · rw [en_u2_off (by omega), ur_ne (by omega), en_u2_off (by omega), R _ (by omega) (by omega)]; exact f3
  · rw [en_u2_off (by omega), ur_ne (by omega), en_u2_off (by omega)]; exact e2
  · rw [en_u2_off (by omega), ur_ne (by omega), en_u2_off (by omega)]; exact e3

