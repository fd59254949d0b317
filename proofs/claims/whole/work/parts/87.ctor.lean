/-! CONSTRUCTORS: the ledger *-/
theorem hS1 {LS : Nat} : (SH LS)[1]? = some (0, 12) := SH_at (by decide +kernel)
theorem hS2 {LS : Nat} : (SH LS)[2]? = some (100 + (0 + 2), 4) := SH_at (by decide +kernel)
theorem hS3 {LS : Nat} : (SH LS)[3]? = some (100 + (1 + 2), 60) := SH_at (by decide +kernel)
theorem hS4 {LS : Nat} : (SH LS)[4]? = some (100, 20) := SH_at (by decide +kernel)
theorem hS5 {LS : Nat} : (SH LS)[5]? = some (100 + (2 + 2), 60) := SH_at (by decide +kernel)
theorem hS6 {LS : Nat} : (SH LS)[6]? = some (100 + (3 + 2), 3) := SH_at (by decide +kernel)
theorem hS7 {LS : Nat} : (SH LS)[7]? = some (6, 2) := SH_at (by decide +kernel)
theorem hS8 {LS : Nat} : (SH LS)[8]? = some (100, 40) := SH_at (by decide +kernel)
theorem hS9 {LS : Nat} : (SH LS)[9]? = some (100 + (4 + 2), 4) := SH_at (by decide +kernel)
theorem hS10 {LS : Nat} : (SH LS)[10]? = some (2, 5) := SH_at (by decide +kernel)
theorem hS11 {LS : Nat} : (SH LS)[11]? = some (100, 8) := SH_at (by decide +kernel)
theorem hS12 {LS : Nat} : (SH LS)[12]? = some (3, 2) := SH_at (by decide +kernel)
theorem hS13 {LS : Nat} : (SH LS)[13]? = some (100, 80) := SH_at (by decide +kernel)
theorem hFPr : ∀ p, p < 4 → SHt[4 * p + 13]? = some (1, 6) ∧ SHt[4 * p + 14]? = some (100, 12) ∧ SHt[4 * p + 15]? = some (100, 12) ∧ SHt[4 * p + 16]? = some (100, 9) := by decide +kernel
def oPr (im : Nat → Nat → Int32) (rm : Nat → Nat → Option Nat) (x : Nat) : Prop := (∀ i, i < 4 → ∀ k, im (x + i) k = 0) ∧ (rm x 0 = some (x + 1)) ∧ (rm x 1 = some (x + 2)) ∧ (rm x 3 = some (x + 3))
theorem oPr_f {im im' : Nat → Nat → Int32} {rm rm' : Nat → Nat → Option Nat} {x : Nat} (h : ∀ c, x ≤ c → c < x + 4 → im' c = im c ∧ rm' c = rm c) (hi : oPr im rm x) : oPr im' rm' x := by
  obtain ⟨a0, a1, a2, a3⟩ := hi
  exact ⟨fun i hi k => by rw [(h (x + i) (by omega) (by omega)).1]; exact a0 i hi k, by rw [(h x (by omega) (by omega)).2]; exact a1, by rw [(h x (by omega) (by omega)).2]; exact a2, by rw [(h x (by omega) (by omega)).2]; exact a3⟩
set_option maxRecDepth 20000 in
set_option maxHeartbeats 4000000 in
theorem lnPr {LS : Nat} {P : Option Value → (Nat → Nat → Int32) → (Nat → Nat → Option Nat) → Prop} : ∀ (m i : Nat), i + m = 4 → ∀ (im : Nat → Nat → Int32) (rm : Nat → Nat → Option Nat), rm 1 0 = some 2 → (∀ p, p < i → rm 2 p = some (4 * p + 14) ∧ oPr im rm (4 * p + 14)) → (∀ im' rm', (∀ c, c < 14 → im' c = im c) → (∀ c, c < 14 → c ≠ 2 → rm' c = rm c) → (∀ p, p < 4 → rm' 2 p = some (4 * p + 14) ∧ oPr im' rm' (4 * p + 14)) → Cn LS 371 0 122 [.ref 1, .int (nI 4)] [] 30 im' rm' P) → Cn LS 371 0 98 [.ref 1, .int (nI i)] [] (4 * i + 14) im rm P := by
  intro m
  induction m with
  | zero =>
    intro i hi im rm hf hE hend
    have hie : i = 4 := by omega
    subst hie
    refine c_iload_n k0_98 rfl ?_
    refine c_iconst (v := 4) k0_99 ic_4 ?_
    exact c_icmp_ge k0_100 (fun _ => hend im rm (fun _ _ => rfl) (fun _ _ _ => rfl) hE) (fun h => absurd (nI_le (Nat.le_refl _) (by decide)) h)
  | succ m ih =>
    intro i hi im rm hf hE hend
    have hlt : i < 4 := by omega
    refine c_iload_n k0_98 rfl ?_
    refine c_iconst (v := 4) k0_99 ic_4 ?_
    refine c_icmp_ge k0_100 (fun h => absurd h (nI_ge hlt (by decide))) (fun _ => ?_)
    refine c_aload_n k0_103 rfl ?_
    refine c_getr k0_104 hS1 (by omega) (by decide) hf ?_
    refine c_iload_n k0_107 rfl ?_
    obtain ⟨s0, s1, s2, s3⟩ := hFPr i hlt
    refine c_new (b2 := 4 * i + 14 + 1) k0_108 rfl (SH_at s0) (by omega) (by omega) (by omega) rfl ?_
    refine c_dup k0_111 rfl ?_
    refine c_invI (B' := 4 * i + 14 + 4) k0_112 (by omega) (by decide) (Nat.le_of_ble_eq_true rfl) (by omega) (by omega) (by omega) (n39 (by omega) (by omega) (SH_at s0) (SH_at s1) (SH_at s2) (SH_at s3) (by rw [ur_eq]) (fun im1 rm1 f0 f1 f2 f3 f4 => ⟨rfl, ?_⟩))
    refine c_aasv (t := 0) k0_115 hS2 (by omega) (SH_at s0) (by omega) rfl rfl hlt (by decide) ?_
    refine c_iincv (y := nI (i + 1)) k0_116 rfl (by decide) (inc_1 i) rfl ?_
    refine c_goto k0_119 ?_
    rw [show 4 * i + 14 + 4 = 4 * (i + 1) + 14 by omega]
    have G : ∀ c, c < 4 * i + 14 → im1 c = im c ∧ rm1 c = rm c := fun c hc => by
      have g := f0 c hc
      rw [ur_ne (by omega), ur_ne (by omega)] at g
      exact g
    refine ih (i + 1) (by omega) im1 (en_u2 rm1 2 i (some (4 * i + 14))) ?_ (fun p hp => ?_) (fun im' rm' g1 g2 g3 => ?_)
    · rw [u2_ne (by omega), (G 1 (by omega)).2]; exact hf
    · by_cases z : p = i
      · subst z
        refine ⟨by rw [u2_eq], ?_⟩
        exact oPr_f (im := im1) (rm := rm1) (fun c h1 h2 => ⟨rfl, en_u2_off (by omega)⟩) ⟨f1, f2, f3, f4⟩
      · obtain ⟨q1, q2⟩ := hE p (by omega)
        refine ⟨by rw [u2_ne (by omega), (G 2 (by omega)).2]; exact q1, ?_⟩
        exact oPr_f (im := im) (rm := rm) (fun c h1 h2 => ⟨(G c (by omega)).1, by rw [en_u2_off (by omega)]; exact (G c (by omega)).2⟩) q2
    · exact hend im' rm' (fun c hc => (g1 c hc).trans (G c (by omega)).1) (fun c hc hne => by rw [g2 c hc hne, en_u2_off hne]; exact (G c (by omega)).2) g3
theorem hFTx : ∀ p, p < 60 → SHt[3 * p + 29]? = some (4, 5) ∧ SHt[3 * p + 30]? = some (3, 2) ∧ SHt[3 * p + 31]? = some (100, 80) := by decide +kernel
def oTx (im : Nat → Nat → Int32) (rm : Nat → Nat → Option Nat) (x : Nat) : Prop := (∀ k, im x k = 0) ∧ (∀ k, im (x + 1) k = 0) ∧ (∀ k, im (x + 2) k = if k < 48 then -1 else 0) ∧ (rm x 4 = some (x + 1)) ∧ (rm (x + 1) 0 = some (x + 2))
theorem oTx_f {im im' : Nat → Nat → Int32} {rm rm' : Nat → Nat → Option Nat} {x : Nat} (h : ∀ c, x ≤ c → c < x + 3 → im' c = im c ∧ rm' c = rm c) (hi : oTx im rm x) : oTx im' rm' x := by
  obtain ⟨a0, a1, a2, a3, a4⟩ := hi
  exact ⟨fun k => by rw [(h x (by omega) (by omega)).1]; exact a0 k, fun k => by rw [(h (x + 1) (by omega) (by omega)).1]; exact a1 k, fun k => by rw [(h (x + 2) (by omega) (by omega)).1]; exact a2 k, by rw [(h x (by omega) (by omega)).2]; exact a3, by rw [(h (x + 1) (by omega) (by omega)).2]; exact a4⟩
set_option maxRecDepth 20000 in
set_option maxHeartbeats 4000000 in
theorem lnTx {LS : Nat} {P : Option Value → (Nat → Nat → Int32) → (Nat → Nat → Option Nat) → Prop} : ∀ (m i : Nat), i + m = 60 → ∀ (im : Nat → Nat → Int32) (rm : Nat → Nat → Option Nat), rm 1 1 = some 3 → (∀ p, p < i → rm 3 p = some (3 * p + 30) ∧ oTx im rm (3 * p + 30)) → (∀ im' rm', (∀ c, c < 30 → im' c = im c) → (∀ c, c < 30 → c ≠ 3 → rm' c = rm c) → (∀ p, p < 60 → rm' 3 p = some (3 * p + 30) ∧ oTx im' rm' (3 * p + 30)) → Cn LS 371 0 149 [.ref 1, .int (nI 60)] [] 210 im' rm' P) → Cn LS 371 0 124 [.ref 1, .int (nI i)] [] (3 * i + 30) im rm P := by
  intro m
  induction m with
  | zero =>
    intro i hi im rm hf hE hend
    have hie : i = 60 := by omega
    subst hie
    refine c_iload_n k0_124 rfl ?_
    refine c_bipush (v := 60) k0_125 bp_60 ?_
    exact c_icmp_ge k0_127 (fun _ => hend im rm (fun _ _ => rfl) (fun _ _ _ => rfl) hE) (fun h => absurd (nI_le (Nat.le_refl _) (by decide)) h)
  | succ m ih =>
    intro i hi im rm hf hE hend
    have hlt : i < 60 := by omega
    refine c_iload_n k0_124 rfl ?_
    refine c_bipush (v := 60) k0_125 bp_60 ?_
    refine c_icmp_ge k0_127 (fun h => absurd h (nI_ge hlt (by decide))) (fun _ => ?_)
    refine c_aload_n k0_130 rfl ?_
    refine c_getr k0_131 hS1 (by omega) (by decide) hf ?_
    refine c_iload_n k0_134 rfl ?_
    obtain ⟨s0, s1, s2⟩ := hFTx i hlt
    refine c_new (b2 := 3 * i + 30 + 1) k0_135 rfl (SH_at s0) (by omega) (by omega) (by omega) rfl ?_
    refine c_dup k0_138 rfl ?_
    refine c_invI (B' := 3 * i + 30 + 3) k0_139 (by omega) (by decide) (Nat.le_of_ble_eq_true rfl) (by omega) (by omega) (by omega) (n70 (by omega) (by omega) (SH_at s0) (SH_at s1) (SH_at s2) (by rw [ur_eq]) (fun im1 rm1 f0 f1 f2 f3 f4 f5 => ⟨rfl, ?_⟩))
    refine c_aasv (t := 1) k0_142 hS3 (by omega) (SH_at s0) (by omega) rfl rfl hlt (by decide) ?_
    refine c_iincv (y := nI (i + 1)) k0_143 rfl (by decide) (inc_1 i) rfl ?_
    refine c_goto k0_146 ?_
    rw [show 3 * i + 30 + 3 = 3 * (i + 1) + 30 by omega]
    have G : ∀ c, c < 3 * i + 30 → im1 c = im c ∧ rm1 c = rm c := fun c hc => by
      have g := f0 c hc
      rw [ur_ne (by omega), ur_ne (by omega)] at g
      exact g
    refine ih (i + 1) (by omega) im1 (en_u2 rm1 3 i (some (3 * i + 30))) ?_ (fun p hp => ?_) (fun im' rm' g1 g2 g3 => ?_)
    · rw [u2_ne (by omega), (G 1 (by omega)).2]; exact hf
    · by_cases z : p = i
      · subst z
        refine ⟨by rw [u2_eq], ?_⟩
        exact oTx_f (im := im1) (rm := rm1) (fun c h1 h2 => ⟨rfl, en_u2_off (by omega)⟩) ⟨f1, f2, f3, f4, f5⟩
      · obtain ⟨q1, q2⟩ := hE p (by omega)
        refine ⟨by rw [u2_ne (by omega), (G 3 (by omega)).2]; exact q1, ?_⟩
        exact oTx_f (im := im) (rm := rm) (fun c h1 h2 => ⟨(G c (by omega)).1, by rw [en_u2_off (by omega)]; exact (G c (by omega)).2⟩) q2
    · exact hend im' rm' (fun c hc => (g1 c hc).trans (G c (by omega)).1) (fun c hc hne => by rw [g2 c hc hne, en_u2_off hne]; exact (G c (by omega)).2) g3
theorem hFBk : ∀ p, p < 60 → SHt[2 * p + 209]? = some (5, 3) ∧ SHt[2 * p + 210]? = some (100, 4) := by decide +kernel
def oBk (im : Nat → Nat → Int32) (rm : Nat → Nat → Option Nat) (x : Nat) : Prop := (∀ i, i < 2 → ∀ k, im (x + i) k = 0) ∧ (rm x 0 = some (x + 1))
theorem oBk_f {im im' : Nat → Nat → Int32} {rm rm' : Nat → Nat → Option Nat} {x : Nat} (h : ∀ c, x ≤ c → c < x + 2 → im' c = im c ∧ rm' c = rm c) (hi : oBk im rm x) : oBk im' rm' x := by
  obtain ⟨a0, a1⟩ := hi
  exact ⟨fun i hi k => by rw [(h (x + i) (by omega) (by omega)).1]; exact a0 i hi k, by rw [(h x (by omega) (by omega)).2]; exact a1⟩
set_option maxRecDepth 20000 in
set_option maxHeartbeats 4000000 in
theorem lnBk {LS : Nat} {P : Option Value → (Nat → Nat → Int32) → (Nat → Nat → Option Nat) → Prop} : ∀ (m i : Nat), i + m = 60 → ∀ (im : Nat → Nat → Int32) (rm : Nat → Nat → Option Nat), rm 1 5 = some 5 → (∀ p, p < i → rm 5 p = some (2 * p + 210) ∧ oBk im rm (2 * p + 210)) → (∀ im' rm', (∀ c, c < 210 → im' c = im c) → (∀ c, c < 210 → c ≠ 5 → rm' c = rm c) → (∀ p, p < 60 → rm' 5 p = some (2 * p + 210) ∧ oBk im' rm' (2 * p + 210)) → Cn LS 371 0 176 [.ref 1, .int (nI 60)] [] 330 im' rm' P) → Cn LS 371 0 151 [.ref 1, .int (nI i)] [] (2 * i + 210) im rm P := by
  intro m
  induction m with
  | zero =>
    intro i hi im rm hf hE hend
    have hie : i = 60 := by omega
    subst hie
    refine c_iload_n k0_151 rfl ?_
    refine c_bipush (v := 60) k0_152 bp_60 ?_
    exact c_icmp_ge k0_154 (fun _ => hend im rm (fun _ _ => rfl) (fun _ _ _ => rfl) hE) (fun h => absurd (nI_le (Nat.le_refl _) (by decide)) h)
  | succ m ih =>
    intro i hi im rm hf hE hend
    have hlt : i < 60 := by omega
    refine c_iload_n k0_151 rfl ?_
    refine c_bipush (v := 60) k0_152 bp_60 ?_
    refine c_icmp_ge k0_154 (fun h => absurd h (nI_ge hlt (by decide))) (fun _ => ?_)
    refine c_aload_n k0_157 rfl ?_
    refine c_getr k0_158 hS1 (by omega) (by decide) hf ?_
    refine c_iload_n k0_161 rfl ?_
    obtain ⟨s0, s1⟩ := hFBk i hlt
    refine c_new (b2 := 2 * i + 210 + 1) k0_162 rfl (SH_at s0) (by omega) (by omega) (by omega) rfl ?_
    refine c_dup k0_165 rfl ?_
    refine c_invI (B' := 2 * i + 210 + 2) k0_166 (by omega) (by decide) (Nat.le_of_ble_eq_true rfl) (by omega) (by omega) (by omega) (n73 (by omega) (by omega) (SH_at s0) (SH_at s1) (by rw [ur_eq]) (fun im1 rm1 f0 f1 f2 => ⟨rfl, ?_⟩))
    refine c_aasv (t := 2) k0_169 hS5 (by omega) (SH_at s0) (by omega) rfl rfl hlt (by decide) ?_
    refine c_iincv (y := nI (i + 1)) k0_170 rfl (by decide) (inc_1 i) rfl ?_
    refine c_goto k0_173 ?_
    rw [show 2 * i + 210 + 2 = 2 * (i + 1) + 210 by omega]
    have G : ∀ c, c < 2 * i + 210 → im1 c = im c ∧ rm1 c = rm c := fun c hc => by
      have g := f0 c hc
      rw [ur_ne (by omega), ur_ne (by omega)] at g
      exact g
    refine ih (i + 1) (by omega) im1 (en_u2 rm1 5 i (some (2 * i + 210))) ?_ (fun p hp => ?_) (fun im' rm' g1 g2 g3 => ?_)
    · rw [u2_ne (by omega), (G 1 (by omega)).2]; exact hf
    · by_cases z : p = i
      · subst z
        refine ⟨by rw [u2_eq], ?_⟩
        exact oBk_f (im := im1) (rm := rm1) (fun c h1 h2 => ⟨rfl, en_u2_off (by omega)⟩) ⟨f1, f2⟩
      · obtain ⟨q1, q2⟩ := hE p (by omega)
        refine ⟨by rw [u2_ne (by omega), (G 5 (by omega)).2]; exact q1, ?_⟩
        exact oBk_f (im := im) (rm := rm) (fun c h1 h2 => ⟨(G c (by omega)).1, by rw [en_u2_off (by omega)]; exact (G c (by omega)).2⟩) q2
    · exact hend im' rm' (fun c hc => (g1 c hc).trans (G c (by omega)).1) (fun c hc hne => by rw [g2 c hc hne, en_u2_off hne]; exact (G c (by omega)).2) g3
theorem hFOr : ∀ p, p < 3 → SHt[3 * p + 329]? = some (7, 3) ∧ SHt[3 * p + 330]? = some (6, 2) ∧ SHt[3 * p + 331]? = some (100, 40) := by decide +kernel
def oOr (im : Nat → Nat → Int32) (rm : Nat → Nat → Option Nat) (x : Nat) : Prop := (∀ k, im x k = if k = 0 then 1 else 0) ∧ (∀ k, im (x + 1) k = 0) ∧ (∀ k, im (x + 2) k = 0) ∧ (rm x 2 = some (x + 1)) ∧ (rm (x + 1) 0 = some (x + 2))
theorem oOr_f {im im' : Nat → Nat → Int32} {rm rm' : Nat → Nat → Option Nat} {x : Nat} (h : ∀ c, x ≤ c → c < x + 3 → im' c = im c ∧ rm' c = rm c) (hi : oOr im rm x) : oOr im' rm' x := by
  obtain ⟨a0, a1, a2, a3, a4⟩ := hi
  exact ⟨fun k => by rw [(h x (by omega) (by omega)).1]; exact a0 k, fun k => by rw [(h (x + 1) (by omega) (by omega)).1]; exact a1 k, fun k => by rw [(h (x + 2) (by omega) (by omega)).1]; exact a2 k, by rw [(h x (by omega) (by omega)).2]; exact a3, by rw [(h (x + 1) (by omega) (by omega)).2]; exact a4⟩
set_option maxRecDepth 20000 in
set_option maxHeartbeats 4000000 in
theorem lnOr {LS : Nat} {P : Option Value → (Nat → Nat → Int32) → (Nat → Nat → Option Nat) → Prop} : ∀ (m i : Nat), i + m = 3 → ∀ (im : Nat → Nat → Int32) (rm : Nat → Nat → Option Nat), rm 1 7 = some 6 → (∀ p, p < i → rm 6 p = some (3 * p + 330) ∧ oOr im rm (3 * p + 330)) → (∀ im' rm', (∀ c, c < 330 → im' c = im c) → (∀ c, c < 330 → c ≠ 6 → rm' c = rm c) → (∀ p, p < 3 → rm' 6 p = some (3 * p + 330) ∧ oOr im' rm' (3 * p + 330)) → Cn LS 371 0 202 [.ref 1, .int (nI 3)] [] 339 im' rm' P) → Cn LS 371 0 178 [.ref 1, .int (nI i)] [] (3 * i + 330) im rm P := by
  intro m
  induction m with
  | zero =>
    intro i hi im rm hf hE hend
    have hie : i = 3 := by omega
    subst hie
    refine c_iload_n k0_178 rfl ?_
    refine c_iconst (v := 3) k0_179 ic_3 ?_
    exact c_icmp_ge k0_180 (fun _ => hend im rm (fun _ _ => rfl) (fun _ _ _ => rfl) hE) (fun h => absurd (nI_le (Nat.le_refl _) (by decide)) h)
  | succ m ih =>
    intro i hi im rm hf hE hend
    have hlt : i < 3 := by omega
    refine c_iload_n k0_178 rfl ?_
    refine c_iconst (v := 3) k0_179 ic_3 ?_
    refine c_icmp_ge k0_180 (fun h => absurd h (nI_ge hlt (by decide))) (fun _ => ?_)
    refine c_aload_n k0_183 rfl ?_
    refine c_getr k0_184 hS1 (by omega) (by decide) hf ?_
    refine c_iload_n k0_187 rfl ?_
    obtain ⟨s0, s1, s2⟩ := hFOr i hlt
    refine c_new (b2 := 3 * i + 330 + 1) k0_188 rfl (SH_at s0) (by omega) (by omega) (by omega) rfl ?_
    refine c_dup k0_191 rfl ?_
    refine c_invI (B' := 3 * i + 330 + 3) k0_192 (by omega) (by decide) (Nat.le_of_ble_eq_true rfl) (by omega) (by omega) (by omega) (n81 (by omega) (by omega) (SH_at s0) (SH_at s1) (SH_at s2) (by rw [ur_eq]) (fun im1 rm1 f0 f1 f2 f3 f4 f5 => ⟨rfl, ?_⟩))
    refine c_aasv (t := 3) k0_195 hS6 (by omega) (SH_at s0) (by omega) rfl rfl hlt (by decide) ?_
    refine c_iincv (y := nI (i + 1)) k0_196 rfl (by decide) (inc_1 i) rfl ?_
    refine c_goto k0_199 ?_
    rw [show 3 * i + 330 + 3 = 3 * (i + 1) + 330 by omega]
    have G : ∀ c, c < 3 * i + 330 → im1 c = im c ∧ rm1 c = rm c := fun c hc => by
      have g := f0 c hc
      rw [ur_ne (by omega), ur_ne (by omega)] at g
      exact g
    refine ih (i + 1) (by omega) im1 (en_u2 rm1 6 i (some (3 * i + 330))) ?_ (fun p hp => ?_) (fun im' rm' g1 g2 g3 => ?_)
    · rw [u2_ne (by omega), (G 1 (by omega)).2]; exact hf
    · by_cases z : p = i
      · subst z
        refine ⟨by rw [u2_eq], ?_⟩
        exact oOr_f (im := im1) (rm := rm1) (fun c h1 h2 => ⟨rfl, en_u2_off (by omega)⟩) ⟨f1, f2, f3, f4, f5⟩
      · obtain ⟨q1, q2⟩ := hE p (by omega)
        refine ⟨by rw [u2_ne (by omega), (G 6 (by omega)).2]; exact q1, ?_⟩
        exact oOr_f (im := im) (rm := rm) (fun c h1 h2 => ⟨(G c (by omega)).1, by rw [en_u2_off (by omega)]; exact (G c (by omega)).2⟩) q2
    · exact hend im' rm' (fun c hc => (g1 c hc).trans (G c (by omega)).1) (fun c hc hne => by rw [g2 c hc hne, en_u2_off hne]; exact (G c (by omega)).2) g3
theorem hFPe : ∀ p, p < 4 → SHt[8 * p + 338]? = some (9, 5) ∧ SHt[8 * p + 339]? = some (8, 3) ∧ SHt[8 * p + 340]? = some (100, 16) ∧ SHt[8 * p + 341]? = some (100, 16) ∧ SHt[8 * p + 342]? = some (8, 3) ∧ SHt[8 * p + 343]? = some (100, 16) ∧ SHt[8 * p + 344]? = some (100, 16) ∧ SHt[8 * p + 345]? = some (100, 160) := by decide +kernel
def oPe (im : Nat → Nat → Int32) (rm : Nat → Nat → Option Nat) (x : Nat) : Prop := (∀ k, im x k = if k = 0 then 1 else 0) ∧ (∀ i, 0 < i → i < 8 → ∀ k, im (x + i) k = 0) ∧ (rm x 2 = some (x + 1)) ∧ (rm x 3 = some (x + 4)) ∧ (rm x 4 = some (x + 7)) ∧ (rm (x + 1) 0 = some (x + 2)) ∧ (rm (x + 1) 1 = some (x + 3)) ∧ (rm (x + 4) 0 = some (x + 5)) ∧ (rm (x + 4) 1 = some (x + 6))
theorem oPe_f {im im' : Nat → Nat → Int32} {rm rm' : Nat → Nat → Option Nat} {x : Nat} (h : ∀ c, x ≤ c → c < x + 8 → im' c = im c ∧ rm' c = rm c) (hi : oPe im rm x) : oPe im' rm' x := by
  obtain ⟨a0, a1, a2, a3, a4, a5, a6, a7, a8⟩ := hi
  exact ⟨fun k => by rw [(h x (by omega) (by omega)).1]; exact a0 k, fun i hi0 hi k => by rw [(h (x + i) (by omega) (by omega)).1]; exact a1 i hi0 hi k, by rw [(h x (by omega) (by omega)).2]; exact a2, by rw [(h x (by omega) (by omega)).2]; exact a3, by rw [(h x (by omega) (by omega)).2]; exact a4, by rw [(h (x + 1) (by omega) (by omega)).2]; exact a5, by rw [(h (x + 1) (by omega) (by omega)).2]; exact a6, by rw [(h (x + 4) (by omega) (by omega)).2]; exact a7, by rw [(h (x + 4) (by omega) (by omega)).2]; exact a8⟩
set_option maxRecDepth 20000 in
set_option maxHeartbeats 4000000 in
theorem lnPe {LS : Nat} {P : Option Value → (Nat → Nat → Int32) → (Nat → Nat → Option Nat) → Prop} : ∀ (m i : Nat), i + m = 4 → ∀ (im : Nat → Nat → Int32) (rm : Nat → Nat → Option Nat), rm 1 10 = some 9 → (∀ p, p < i → rm 9 p = some (8 * p + 339) ∧ oPe im rm (8 * p + 339)) → (∀ im' rm', (∀ c, c < 339 → im' c = im c) → (∀ c, c < 339 → c ≠ 9 → rm' c = rm c) → (∀ p, p < 4 → rm' 9 p = some (8 * p + 339) ∧ oPe im' rm' (8 * p + 339)) → Cn LS 371 0 228 [.ref 1, .int (nI 4)] [] 371 im' rm' P) → Cn LS 371 0 204 [.ref 1, .int (nI i)] [] (8 * i + 339) im rm P := by
  intro m
  induction m with
  | zero =>
    intro i hi im rm hf hE hend
    have hie : i = 4 := by omega
    subst hie
    refine c_iload_n k0_204 rfl ?_
    refine c_iconst (v := 4) k0_205 ic_4 ?_
    exact c_icmp_ge k0_206 (fun _ => hend im rm (fun _ _ => rfl) (fun _ _ _ => rfl) hE) (fun h => absurd (nI_le (Nat.le_refl _) (by decide)) h)
  | succ m ih =>
    intro i hi im rm hf hE hend
    have hlt : i < 4 := by omega
    refine c_iload_n k0_204 rfl ?_
    refine c_iconst (v := 4) k0_205 ic_4 ?_
    refine c_icmp_ge k0_206 (fun h => absurd h (nI_ge hlt (by decide))) (fun _ => ?_)
    refine c_aload_n k0_209 rfl ?_
    refine c_getr k0_210 hS1 (by omega) (by decide) hf ?_
    refine c_iload_n k0_213 rfl ?_
    obtain ⟨s0, s1, s2, s3, s4, s5, s6, s7⟩ := hFPe i hlt
    refine c_new (b2 := 8 * i + 339 + 1) k0_214 rfl (SH_at s0) (by omega) (by omega) (by omega) rfl ?_
    refine c_dup k0_217 rfl ?_
    refine c_invI (B' := 8 * i + 339 + 8) k0_218 (by omega) (by decide) (Nat.le_of_ble_eq_true rfl) (by omega) (by omega) (by omega) (n84 (by omega) (by omega) (SH_at s0) (SH_at s1) (SH_at s2) (SH_at s3) (SH_at s4) (SH_at s5) (SH_at s6) (SH_at s7) (by rw [ur_eq]) (fun im1 rm1 f0 f1 f2 f3 f4 f5 f6 f7 f8 f9 => ⟨rfl, ?_⟩))
    refine c_aasv (t := 4) k0_221 hS9 (by omega) (SH_at s0) (by omega) rfl rfl hlt (by decide) ?_
    refine c_iincv (y := nI (i + 1)) k0_222 rfl (by decide) (inc_1 i) rfl ?_
    refine c_goto k0_225 ?_
    rw [show 8 * i + 339 + 8 = 8 * (i + 1) + 339 by omega]
    have G : ∀ c, c < 8 * i + 339 → im1 c = im c ∧ rm1 c = rm c := fun c hc => by
      have g := f0 c hc
      rw [ur_ne (by omega), ur_ne (by omega)] at g
      exact g
    refine ih (i + 1) (by omega) im1 (en_u2 rm1 9 i (some (8 * i + 339))) ?_ (fun p hp => ?_) (fun im' rm' g1 g2 g3 => ?_)
    · rw [u2_ne (by omega), (G 1 (by omega)).2]; exact hf
    · by_cases z : p = i
      · subst z
        refine ⟨by rw [u2_eq], ?_⟩
        exact oPe_f (im := im1) (rm := rm1) (fun c h1 h2 => ⟨rfl, en_u2_off (by omega)⟩) ⟨f1, f2, f3, f4, f5, f6, f7, f8, f9⟩
      · obtain ⟨q1, q2⟩ := hE p (by omega)
        refine ⟨by rw [u2_ne (by omega), (G 9 (by omega)).2]; exact q1, ?_⟩
        exact oPe_f (im := im) (rm := rm) (fun c h1 h2 => ⟨(G c (by omega)).1, by rw [en_u2_off (by omega)]; exact (G c (by omega)).2⟩) q2
    · exact hend im' rm' (fun c hc => (g1 c hc).trans (G c (by omega)).1) (fun c hc hne => by rw [g2 c hc hne, en_u2_off hne]; exact (G c (by omega)).2) g3
set_option maxRecDepth 20000 in
set_option maxHeartbeats 4000000 in
theorem n0a {LS : Nat} {im : Nat → Nat → Int32} {rm : Nat → Nat → Option Nat} {P : Option Value → (Nat → Nat → Int32) → (Nat → Nat → Option Nat) → Prop} (hz : im 1 = fun _ => 0) (h : ∀ im' rm', (∀ c, c < 1 → im' c = im c) → (∀ k, im' 1 k = if k = 8 then -1 else 0) → (∀ c, 2 ≤ c → c ≤ 12 → ∀ k, im' c k = 0) → (∀ k, im' 13 k = if k < 48 then -1 else 0) → (rm' 1 0 = some 2) → (rm' 1 1 = some 3) → (rm' 1 3 = some 4) → (rm' 1 5 = some 5) → (rm' 1 7 = some 6) → (rm' 1 9 = some 7) → (rm' 1 10 = some 9) → (rm' 1 11 = some 10) → (rm' 7 0 = some 8) → (rm' 10 0 = some 11) → (rm' 10 1 = some 12) → (rm' 12 0 = some 13) → Cn LS 371 0 98 [.ref 1, .int (nI 0)] [] 14 im' rm' P) : Cn LS 371 0 0 (en_in 0 [.ref 1]) [] 2 im rm P := by
  show Cn LS 371 0 0 [.ref 1, .long 0] [] 2 im rm P
  refine c_aload_n k0_0 rfl ?_
  refine c_obj k0_1 (by decide) (Nat.le_of_ble_eq_true rfl) ?_
  refine c_aload_n k0_4 rfl ?_
  refine c_iconst (v := 4) k0_5 ic_4 ?_
  refine c_newq (n := 4) (t := 0) (b2 := 3) k0_6 rfl hS2 (by decide) (by decide) (by decide) (by decide) rfl ?_
  refine c_putr k0_9 (Or.inr ⟨_, rfl⟩) (by decide) hS1 (by decide) (by decide) ?_
  refine c_aload_n k0_12 rfl ?_
  refine c_bipush (v := 60) k0_13 bp_60 ?_
  refine c_newq (n := 60) (t := 1) (b2 := 4) k0_15 rfl hS3 (by decide) (by decide) (by decide) (by decide) rfl ?_
  refine c_putr k0_18 (Or.inr ⟨_, rfl⟩) (by decide) hS1 (by decide) (by decide) ?_
  refine c_aload_n k0_21 rfl ?_
  refine c_iconst (v := 0) k0_22 ic_0 ?_
  refine c_puti k0_23 (by decide) hS1 (by decide) (by decide) ?_
  refine c_aload_n k0_26 rfl ?_
  refine c_bipush (v := 20) k0_27 bp_20 ?_
  refine c_newi (n := 20) (b2 := 5) k0_29 rfl hS4 (by decide) (by decide) (by decide) (by decide) rfl ?_
  refine c_putr k0_31 (Or.inr ⟨_, rfl⟩) (by decide) hS1 (by decide) (by decide) ?_
  refine c_aload_n k0_34 rfl ?_
  refine c_iconst (v := 0) k0_35 ic_0 ?_
  refine c_puti k0_36 (by decide) hS1 (by decide) (by decide) ?_
  refine c_aload_n k0_39 rfl ?_
  refine c_bipush (v := 60) k0_40 bp_60 ?_
  refine c_newq (n := 60) (t := 2) (b2 := 6) k0_42 rfl hS5 (by decide) (by decide) (by decide) (by decide) rfl ?_
  refine c_putr k0_45 (Or.inr ⟨_, rfl⟩) (by decide) hS1 (by decide) (by decide) ?_
  refine c_aload_n k0_48 rfl ?_
  refine c_iconst (v := 0) k0_49 ic_0 ?_
  refine c_puti k0_50 (by decide) hS1 (by decide) (by decide) ?_
  refine c_aload_n k0_53 rfl ?_
  refine c_iconst (v := 3) k0_54 ic_3 ?_
  refine c_newq (n := 3) (t := 3) (b2 := 7) k0_55 rfl hS6 (by decide) (by decide) (by decide) (by decide) rfl ?_
  refine c_putr k0_58 (Or.inr ⟨_, rfl⟩) (by decide) hS1 (by decide) (by decide) ?_
  refine c_aload_n k0_61 rfl ?_
  refine c_iconst (v := -1) k0_62 ic_m1 ?_
  refine c_puti k0_63 (by decide) hS1 (by decide) (by decide) ?_
  refine c_aload_n k0_66 rfl ?_
  refine c_new (b2 := 8) k0_67 rfl hS7 (by decide) (by decide) (by decide) rfl ?_
  refine c_dup k0_70 rfl ?_
  refine c_invI (B' := 9) k0_71 (by decide) (by decide) (Nat.le_of_ble_eq_true rfl) (by decide) (by decide) (by decide) (n77 (a := 7) (by decide) (by decide) hS7 hS8 (by rw [ur_eq]) (fun im1 rm1 f0 f1 f2 => ⟨rfl, ?_⟩))
  refine c_putr k0_74 (Or.inl ⟨_, rfl⟩) (by decide) hS1 (by decide) (by decide) ?_
  refine c_aload_n k0_77 rfl ?_
  refine c_iconst (v := 4) k0_78 ic_4 ?_
  refine c_newq (n := 4) (t := 4) (b2 := 10) k0_79 rfl hS9 (by decide) (by decide) (by decide) (by decide) rfl ?_
  refine c_putr k0_82 (Or.inr ⟨_, rfl⟩) (by decide) hS1 (by decide) (by decide) ?_
  refine c_aload_n k0_85 rfl ?_
  refine c_new (b2 := 11) k0_86 rfl hS10 (by decide) (by decide) (by decide) rfl ?_
  refine c_dup k0_89 rfl ?_
  refine c_invI (B' := 14) k0_90 (by decide) (by decide) (Nat.le_of_ble_eq_true rfl) (by decide) (by decide) (by decide) (n46 (a := 10) (by decide) (by decide) hS10 hS11 hS12 hS13 (by rw [ur_eq]) (fun im2 rm2 e0 e1 e2 e3 e4 e5 e6 e7 => ⟨rfl, ?_⟩))
  refine c_putr k0_93 (Or.inl ⟨_, rfl⟩) (by decide) hS1 (by decide) (by decide) ?_
  refine c_iconst (v := 0) k0_96 ic_0 ?_
  refine c_istore_n k0_97 (by decide) rfl ?_
  have I2 : ∀ c, c < 9 → im2 c = im1 c := fun c hc => by rw [(e0 c (by omega)).1, ur_ne (by omega), ur_ne (by omega)]
  have R2 : ∀ c, c < 9 → c ≠ 1 → rm2 c = rm1 c := fun c hc hne => by rw [(e0 c (by omega)).2, ur_ne (by omega), en_u2_off hne, ur_ne (by omega), en_u2_off hne]
  have R1 := (e0 1 (by decide)).2
  have Q1 := (f0 1 (by decide)).2
  refine h _ _ (fun c hc => ?_) (fun k => ?_) (fun c h1 h2 k => ?_) e4 ?_ ?_ ?_ ?_ ?_ ?_ ?_ ?_ ?_ ?_ ?_ ?_
  · have : c = 0 := by omega
    subst this
    rw [I2 0 (by decide), (f0 0 (by decide)).1]
    funext k; simp [en_u2, en_ur]
  · rw [I2 1 (by decide), (f0 1 (by decide)).1]
    by_cases z : k = 8 <;> simp [en_u2, en_ur, hz, z]
  · by_cases z : c < 7
    · rw [I2 c (by omega), (f0 c z).1]
      rcases (show c = 2 ∨ c = 3 ∨ c = 4 ∨ c = 5 ∨ c = 6 by omega) with rfl | rfl | rfl | rfl | rfl <;> simp [en_u2, en_ur]
    · rcases (show c = 7 ∨ c = 8 ∨ c = 9 ∨ c = 10 ∨ c = 11 ∨ c = 12 by omega) with rfl | rfl | rfl | rfl | rfl | rfl
      · rw [I2 7 (by decide)]; exact f1 0 (by decide) k
      · rw [I2 8 (by decide)]; exact f1 1 (by decide) k
      · rw [(e0 9 (by decide)).1]; simp [en_ur]
      · exact e1 k
      · exact e2 k
      · exact e3 k
  · rw [u2_ne (by decide), R1]; simp [en_u2, en_ur, Q1]
  · rw [u2_ne (by decide), R1]; simp [en_u2, en_ur, Q1]
  · rw [u2_ne (by decide), R1]; simp [en_u2, en_ur, Q1]
  · rw [u2_ne (by decide), R1]; simp [en_u2, en_ur, Q1]
  · rw [u2_ne (by decide), R1]; simp [en_u2, en_ur, Q1]
  · rw [u2_ne (by decide), R1]; simp [en_u2, en_ur]
  · rw [u2_ne (by decide), R1]; simp [en_u2, en_ur]
  · rw [u2_eq]
  · rw [en_u2_off (by decide), R2 7 (by decide) (by decide)]; exact f2
  · rw [en_u2_off (by decide)]; exact e5
  · rw [en_u2_off (by decide)]; exact e6
  · rw [en_u2_off (by decide)]; exact e7
def isL (im : Nat → Nat → Int32) (rm : Nat → Nat → Option Nat) : Prop := (∀ k, im 1 k = if k = 8 then -1 else 0) ∧ (∀ c, 2 ≤ c → c ≤ 12 → ∀ k, im c k = 0) ∧ (∀ k, im 13 k = if k < 48 then -1 else 0) ∧ (rm 1 0 = some 2) ∧ (rm 1 1 = some 3) ∧ (rm 1 3 = some 4) ∧ (rm 1 5 = some 5) ∧ (rm 1 7 = some 6) ∧ (rm 1 9 = some 7) ∧ (rm 1 10 = some 9) ∧ (rm 1 11 = some 10) ∧ (rm 7 0 = some 8) ∧ (rm 10 0 = some 11) ∧ (rm 10 1 = some 12) ∧ (rm 12 0 = some 13) ∧ (∀ p, p < 4 → rm 2 p = some (4 * p + 14) ∧ oPr im rm (4 * p + 14)) ∧ (∀ p, p < 60 → rm 3 p = some (3 * p + 30) ∧ oTx im rm (3 * p + 30)) ∧ (∀ p, p < 60 → rm 5 p = some (2 * p + 210) ∧ oBk im rm (2 * p + 210)) ∧ (∀ p, p < 3 → rm 6 p = some (3 * p + 330) ∧ oOr im rm (3 * p + 330)) ∧ (∀ p, p < 4 → rm 9 p = some (8 * p + 339) ∧ oPe im rm (8 * p + 339))
set_option maxRecDepth 20000 in
set_option maxHeartbeats 4000000 in
theorem n0 {LS : Nat} {im : Nat → Nat → Int32} {rm : Nat → Nat → Option Nat} {P : Option Value → (Nat → Nat → Int32) → (Nat → Nat → Option Nat) → Prop} (hz : im 1 = fun _ => 0) (h : ∀ im' rm', (∀ c, c < 1 → im' c = im c) → isL im' rm' → P none im' rm') : Cn LS 371 0 0 (en_in 0 [.ref 1]) [] 2 im rm P := by
  refine n0a hz (fun im0 rm0 a0 a1 a2 a3 a4 a5 a6 a7 a8 a9 a10 a11 a12 a13 a14 a15 => ?_)
  refine lnPr 4 0 (by decide) im0 rm0 (a4) (fun p hp => absurd hp (by omega)) (fun im1 rm1 v1 u1 g1 => ?_)
  refine c_iconst (v := 0) k0_122 ic_0 ?_
  refine c_istore_n k0_123 (by decide) rfl ?_
  refine lnTx 60 0 (by decide) im1 rm1 (by rw [u1 1 (by decide) (by decide)]; exact a5) (fun p hp => absurd hp (by omega)) (fun im2 rm2 v2 u2 g2 => ?_)
  refine c_iconst (v := 0) k0_149 ic_0 ?_
  refine c_istore_n k0_150 (by decide) rfl ?_
  refine lnBk 60 0 (by decide) im2 rm2 (by rw [u2 1 (by decide) (by decide), u1 1 (by decide) (by decide)]; exact a7) (fun p hp => absurd hp (by omega)) (fun im3 rm3 v3 u3 g3 => ?_)
  refine c_iconst (v := 0) k0_176 ic_0 ?_
  refine c_istore_n k0_177 (by decide) rfl ?_
  refine lnOr 3 0 (by decide) im3 rm3 (by rw [u3 1 (by decide) (by decide), u2 1 (by decide) (by decide), u1 1 (by decide) (by decide)]; exact a8) (fun p hp => absurd hp (by omega)) (fun im4 rm4 v4 u4 g4 => ?_)
  refine c_iconst (v := 0) k0_202 ic_0 ?_
  refine c_istore_n k0_203 (by decide) rfl ?_
  refine lnPe 4 0 (by decide) im4 rm4 (by rw [u4 1 (by decide) (by decide), u3 1 (by decide) (by decide), u2 1 (by decide) (by decide), u1 1 (by decide) (by decide)]; exact a10) (fun p hp => absurd hp (by omega)) (fun im5 rm5 v5 u5 g5 => ?_)
  refine c_retv k0_228 rfl rfl (by decide) ?_
  have V : ∀ c, c < 14 → im5 c = im0 c := fun c hc => by rw [v5 c (by omega), v4 c (by omega), v3 c (by omega), v2 c (by omega), v1 c (by omega)]
  have U : ∀ c, c < 14 → c ≠ 2 → c ≠ 3 → c ≠ 5 → c ≠ 6 → c ≠ 9 → rm5 c = rm0 c := fun c hc n1 n2 n3 n4 n5 => by rw [u5 c (by omega) n5, u4 c (by omega) n4, u3 c (by omega) n3, u2 c (by omega) n2, u1 c (by omega) n1]
  refine h im5 rm5 (fun c hc => (V c (by omega)).trans (a0 c hc)) ⟨fun k => by rw [V 1 (by decide)]; exact a1 k, fun c h1 h2 k => by rw [V c (by omega)]; exact a2 c h1 h2 k, fun k => by rw [V 13 (by decide)]; exact a3 k, by rw [U 1 (by decide) (by decide) (by decide) (by decide) (by decide) (by decide)]; exact a4, by rw [U 1 (by decide) (by decide) (by decide) (by decide) (by decide) (by decide)]; exact a5, by rw [U 1 (by decide) (by decide) (by decide) (by decide) (by decide) (by decide)]; exact a6, by rw [U 1 (by decide) (by decide) (by decide) (by decide) (by decide) (by decide)]; exact a7, by rw [U 1 (by decide) (by decide) (by decide) (by decide) (by decide) (by decide)]; exact a8, by rw [U 1 (by decide) (by decide) (by decide) (by decide) (by decide) (by decide)]; exact a9, by rw [U 1 (by decide) (by decide) (by decide) (by decide) (by decide) (by decide)]; exact a10, by rw [U 1 (by decide) (by decide) (by decide) (by decide) (by decide) (by decide)]; exact a11, by rw [U 7 (by decide) (by decide) (by decide) (by decide) (by decide) (by decide)]; exact a12, by rw [U 10 (by decide) (by decide) (by decide) (by decide) (by decide) (by decide)]; exact a13, by rw [U 10 (by decide) (by decide) (by decide) (by decide) (by decide) (by decide)]; exact a14, by rw [U 12 (by decide) (by decide) (by decide) (by decide) (by decide) (by decide)]; exact a15, fun p hp => ?_, fun p hp => ?_, fun p hp => ?_, fun p hp => ?_, g5⟩
  · obtain ⟨q1, q2⟩ := g1 p hp
    refine ⟨by rw [u5 2 (by decide) (by decide), u4 2 (by decide) (by decide), u3 2 (by decide) (by decide), u2 2 (by decide) (by decide)]; exact q1, oPr_f (im := im1) (rm := rm1) (fun c h1 h2 => ⟨by rw [v5 c (by omega), v4 c (by omega), v3 c (by omega), v2 c (by omega)], by rw [u5 c (by omega) (by omega), u4 c (by omega) (by omega), u3 c (by omega) (by omega), u2 c (by omega) (by omega)]⟩) q2⟩
  · obtain ⟨q1, q2⟩ := g2 p hp
    refine ⟨by rw [u5 3 (by decide) (by decide), u4 3 (by decide) (by decide), u3 3 (by decide) (by decide)]; exact q1, oTx_f (im := im2) (rm := rm2) (fun c h1 h2 => ⟨by rw [v5 c (by omega), v4 c (by omega), v3 c (by omega)], by rw [u5 c (by omega) (by omega), u4 c (by omega) (by omega), u3 c (by omega) (by omega)]⟩) q2⟩
  · obtain ⟨q1, q2⟩ := g3 p hp
    refine ⟨by rw [u5 5 (by decide) (by decide), u4 5 (by decide) (by decide)]; exact q1, oBk_f (im := im3) (rm := rm3) (fun c h1 h2 => ⟨by rw [v5 c (by omega), v4 c (by omega)], by rw [u5 c (by omega) (by omega), u4 c (by omega) (by omega)]⟩) q2⟩
  · obtain ⟨q1, q2⟩ := g4 p hp
    refine ⟨by rw [u5 6 (by decide) (by decide)]; exact q1, oOr_f (im := im4) (rm := rm4) (fun c h1 h2 => ⟨by rw [v5 c (by omega)], by rw [u5 c (by omega) (by omega)]⟩) q2⟩
/-! CONSTRUCTORS: the reference *-/
def fl86 : List Nat := [0, 1, 2, 3, 4, 5, 6, 7, 8, 10, 11, 12, 13, 14, 15, 16, 17, 18, 19, 20, 21, 24, 27, 28, 29, 30, 31, 32, 33, 35, 37, 38, 39, 40, 41, 42, 43, 44]
/-- n arrays stand; l: the leader is set *-/
def jM (im0 : Nat → Nat → Int32) (rm0 : Nat → Nat → Option Nat) (n : Nat) (l : Int32) (im : Nat → Nat → Int32) (rm : Nat → Nat → Option Nat) : Prop := fF 371 im0 rm0 im rm ∧ (∀ k, im 371 k = if k = 34 then l else 0) ∧ (∀ c, 372 ≤ c → c < 372 + n → ∀ k, im c k = 0) ∧ ∀ q, q < n → rm 371 (fl86.getD q 0) = some (372 + q)
theorem fl_inj : ∀ q, q < 38 → ∀ r, r < q → fl86.getD r 0 ≠ fl86.getD q 0 := by decide +kernel
theorem jM_s {im0 im : Nat → Nat → Int32} {rm0 rm : Nat → Nat → Option Nat} {n f b : Nat} {l : Int32} (hn : n < 38) (hf : fl86.getD n 0 = f) (hb : 372 + n = b) (h : jM im0 rm0 n l im rm) : jM im0 rm0 (n + 1) l (en_ur im b (fun _ => 0)) (en_u2 (en_ur rm b (fun _ => none)) 371 f (some b)) := by
  subst hb
  subst hf
  obtain ⟨h1, h2, h3, h4⟩ := h
  refine ⟨fun c hc => ?_, fun k => ?_, fun c c1 c2 k => ?_, fun q hq => ?_⟩
  · rw [ur_ne (by omega), en_u2_off (by omega), ur_ne (by omega)]; exact h1 c hc
  · rw [ur_ne (by omega)]; exact h2 k
  · by_cases z : c = 372 + n
    · subst z; rw [ur_eq]
    · rw [ur_ne z]; exact h3 c c1 (by omega) k
  · by_cases z : q = n
    · subst z; rw [u2_eq]
    · rw [u2_ne (Or.inr (fl_inj n hn q (by omega))), ur_ne (by omega)]; exact h4 q (by omega)
set_option maxRecDepth 20000 in
set_option maxHeartbeats 4000000 in
theorem n86 {LS : Nat} {im : Nat → Nat → Int32} {rm : Nat → Nat → Option Nat} {P : Option Value → (Nat → Nat → Int32) → (Nat → Nat → Option Nat) → Prop} (hz : im 371 = fun _ => 0) (h : ∀ im' rm', jM im rm 38 (-1) im' rm' → P none im' rm') : Cn LS 410 86 0 (en_in 86 [.ref 371]) [] 372 im rm P := by
  show Cn LS 410 86 0 [.ref 371] [] 372 im rm P
  refine c_aload_n k86_0 rfl ?_
  refine c_obj k86_1 (by decide) (Nat.le_of_ble_eq_true rfl) ?_
  have J : jM im rm 0 0 im rm := ⟨fun _ _ => ⟨rfl, rfl⟩, fun k => by rw [hz]; simp, fun c c1 c2 => absurd c2 (by omega), fun q hq => absurd hq (by omega)⟩
  refine c_aload_n k86_4 rfl ?_
  refine c_iconst (v := 4) k86_5 ic_4 ?_
  refine c_newi (n := 4) (b2 := 373) k86_6 rfl sM372 (by decide) (by decide) (by decide) (by decide) rfl ?_
  refine c_putr k86_8 (Or.inr ⟨_, rfl⟩) (by decide) sM371 (by decide) (by decide) ?_
  have J := jM_s (f := 0) (b := 372) (by decide) rfl rfl J
  generalize en_ur im 372 (fun _ => 0) = im1 at J ⊢
  generalize en_u2 (en_ur rm 372 (fun _ => none)) 371 0 (some 372) = rm1 at J ⊢
  refine c_aload_n k86_11 rfl ?_
  refine c_bipush (v := 48) k86_12 bp_48 ?_
  refine c_newi (n := 48) (b2 := 374) k86_14 rfl sM373 (by decide) (by decide) (by decide) (by decide) rfl ?_
  refine c_putr k86_16 (Or.inr ⟨_, rfl⟩) (by decide) sM371 (by decide) (by decide) ?_
  have J := jM_s (f := 1) (b := 373) (by decide) rfl rfl J
  generalize en_ur im1 373 (fun _ => 0) = im2 at J ⊢
  generalize en_u2 (en_ur rm1 373 (fun _ => none)) 371 1 (some 373) = rm2 at J ⊢
  refine c_aload_n k86_19 rfl ?_
  refine c_bipush (v := 48) k86_20 bp_48 ?_
  refine c_newi (n := 48) (b2 := 375) k86_22 rfl sM374 (by decide) (by decide) (by decide) (by decide) rfl ?_
  refine c_putr k86_24 (Or.inr ⟨_, rfl⟩) (by decide) sM371 (by decide) (by decide) ?_
  have J := jM_s (f := 2) (b := 374) (by decide) rfl rfl J
  generalize en_ur im2 374 (fun _ => 0) = im3 at J ⊢
  generalize en_u2 (en_ur rm2 374 (fun _ => none)) 371 2 (some 374) = rm3 at J ⊢
  refine c_aload_n k86_27 rfl ?_
  refine c_iconst (v := 4) k86_28 ic_4 ?_
  refine c_newi (n := 4) (b2 := 376) k86_29 rfl sM375 (by decide) (by decide) (by decide) (by decide) rfl ?_
  refine c_putr k86_31 (Or.inr ⟨_, rfl⟩) (by decide) sM371 (by decide) (by decide) ?_
  have J := jM_s (f := 3) (b := 375) (by decide) rfl rfl J
  generalize en_ur im3 375 (fun _ => 0) = im4 at J ⊢
  generalize en_u2 (en_ur rm3 375 (fun _ => none)) 371 3 (some 375) = rm4 at J ⊢
  refine c_aload_n k86_34 rfl ?_
  refine c_bipush (v := 36) k86_35 bp_36 ?_
  refine c_newi (n := 36) (b2 := 377) k86_37 rfl sM376 (by decide) (by decide) (by decide) (by decide) rfl ?_
  refine c_putr k86_39 (Or.inr ⟨_, rfl⟩) (by decide) sM371 (by decide) (by decide) ?_
  have J := jM_s (f := 4) (b := 376) (by decide) rfl rfl J
  generalize en_ur im4 376 (fun _ => 0) = im5 at J ⊢
  generalize en_u2 (en_ur rm4 376 (fun _ => none)) 371 4 (some 376) = rm5 at J ⊢
  refine c_aload_n k86_42 rfl ?_
  refine c_bipush (v := 36) k86_43 bp_36 ?_
  refine c_newi (n := 36) (b2 := 378) k86_45 rfl sM377 (by decide) (by decide) (by decide) (by decide) rfl ?_
  refine c_putr k86_47 (Or.inr ⟨_, rfl⟩) (by decide) sM371 (by decide) (by decide) ?_
  have J := jM_s (f := 5) (b := 377) (by decide) rfl rfl J
  generalize en_ur im5 377 (fun _ => 0) = im6 at J ⊢
  generalize en_u2 (en_ur rm5 377 (fun _ => none)) 371 5 (some 377) = rm6 at J ⊢
  refine c_aload_n k86_50 rfl ?_
  refine c_sipush (v := 144) k86_51 sp_144 ?_
  refine c_newi (n := 144) (b2 := 379) k86_54 rfl sM378 (by decide) (by decide) (by decide) (by decide) rfl ?_
  refine c_putr k86_56 (Or.inr ⟨_, rfl⟩) (by decide) sM371 (by decide) (by decide) ?_
  have J := jM_s (f := 6) (b := 378) (by decide) rfl rfl J
  generalize en_ur im6 378 (fun _ => 0) = im7 at J ⊢
  generalize en_u2 (en_ur rm6 378 (fun _ => none)) 371 6 (some 378) = rm7 at J ⊢
  refine c_aload_n k86_59 rfl ?_
  refine c_bipush (v := 36) k86_60 bp_36 ?_
  refine c_newi (n := 36) (b2 := 380) k86_62 rfl sM379 (by decide) (by decide) (by decide) (by decide) rfl ?_
  refine c_putr k86_64 (Or.inr ⟨_, rfl⟩) (by decide) sM371 (by decide) (by decide) ?_
  have J := jM_s (f := 7) (b := 379) (by decide) rfl rfl J
  generalize en_ur im7 379 (fun _ => 0) = im8 at J ⊢
  generalize en_u2 (en_ur rm7 379 (fun _ => none)) 371 7 (some 379) = rm8 at J ⊢
  refine c_aload_n k86_67 rfl ?_
  refine c_iconst (v := 4) k86_68 ic_4 ?_
  refine c_newi (n := 4) (b2 := 381) k86_69 rfl sM380 (by decide) (by decide) (by decide) (by decide) rfl ?_
  refine c_putr k86_71 (Or.inr ⟨_, rfl⟩) (by decide) sM371 (by decide) (by decide) ?_
  have J := jM_s (f := 8) (b := 380) (by decide) rfl rfl J
  generalize en_ur im8 380 (fun _ => 0) = im9 at J ⊢
  generalize en_u2 (en_ur rm8 380 (fun _ => none)) 371 8 (some 380) = rm9 at J ⊢
  refine c_aload_n k86_74 rfl ?_
  refine c_bipush (v := 61) k86_75 bp_61 ?_
  refine c_newi (n := 61) (b2 := 382) k86_77 rfl sM381 (by decide) (by decide) (by decide) (by decide) rfl ?_
  refine c_putr k86_79 (Or.inr ⟨_, rfl⟩) (by decide) sM371 (by decide) (by decide) ?_
  have J := jM_s (f := 10) (b := 381) (by decide) rfl rfl J
  generalize en_ur im9 381 (fun _ => 0) = im10 at J ⊢
  generalize en_u2 (en_ur rm9 381 (fun _ => none)) 371 10 (some 381) = rm10 at J ⊢
  refine c_aload_n k86_82 rfl ?_
  refine c_bipush (v := 61) k86_83 bp_61 ?_
  refine c_newi (n := 61) (b2 := 383) k86_85 rfl sM382 (by decide) (by decide) (by decide) (by decide) rfl ?_
  refine c_putr k86_87 (Or.inr ⟨_, rfl⟩) (by decide) sM371 (by decide) (by decide) ?_
  have J := jM_s (f := 11) (b := 382) (by decide) rfl rfl J
  generalize en_ur im10 382 (fun _ => 0) = im11 at J ⊢
  generalize en_u2 (en_ur rm10 382 (fun _ => none)) 371 11 (some 382) = rm11 at J ⊢
  refine c_aload_n k86_90 rfl ?_
  refine c_bipush (v := 61) k86_91 bp_61 ?_
  refine c_newi (n := 61) (b2 := 384) k86_93 rfl sM383 (by decide) (by decide) (by decide) (by decide) rfl ?_
  refine c_putr k86_95 (Or.inr ⟨_, rfl⟩) (by decide) sM371 (by decide) (by decide) ?_
  have J := jM_s (f := 12) (b := 383) (by decide) rfl rfl J
  generalize en_ur im11 383 (fun _ => 0) = im12 at J ⊢
  generalize en_u2 (en_ur rm11 383 (fun _ => none)) 371 12 (some 383) = rm12 at J ⊢
  refine c_aload_n k86_98 rfl ?_
  refine c_bipush (v := 61) k86_99 bp_61 ?_
  refine c_newz (n := 61) (b2 := 385) k86_101 rfl sM384 (by decide) (by decide) (by decide) (by decide) rfl ?_
  refine c_putr k86_103 (Or.inr ⟨_, rfl⟩) (by decide) sM371 (by decide) (by decide) ?_
  have J := jM_s (f := 13) (b := 384) (by decide) rfl rfl J
  generalize en_ur im12 384 (fun _ => 0) = im13 at J ⊢
  generalize en_u2 (en_ur rm12 384 (fun _ => none)) 371 13 (some 384) = rm13 at J ⊢
  refine c_aload_n k86_106 rfl ?_
  refine c_sipush (v := 976) k86_107 sp_976 ?_
  refine c_newi (n := 976) (b2 := 386) k86_110 rfl sM385 (by decide) (by decide) (by decide) (by decide) rfl ?_
  refine c_putr k86_112 (Or.inr ⟨_, rfl⟩) (by decide) sM371 (by decide) (by decide) ?_
  have J := jM_s (f := 14) (b := 385) (by decide) rfl rfl J
  generalize en_ur im13 385 (fun _ => 0) = im14 at J ⊢
  generalize en_u2 (en_ur rm13 385 (fun _ => none)) 371 14 (some 385) = rm14 at J ⊢
  refine c_aload_n k86_115 rfl ?_
  refine c_sipush (v := 976) k86_116 sp_976 ?_
  refine c_newi (n := 976) (b2 := 387) k86_119 rfl sM386 (by decide) (by decide) (by decide) (by decide) rfl ?_
  refine c_putr k86_121 (Or.inr ⟨_, rfl⟩) (by decide) sM371 (by decide) (by decide) ?_
  have J := jM_s (f := 15) (b := 386) (by decide) rfl rfl J
  generalize en_ur im14 386 (fun _ => 0) = im15 at J ⊢
  generalize en_u2 (en_ur rm14 386 (fun _ => none)) 371 15 (some 386) = rm15 at J ⊢
  refine c_aload_n k86_124 rfl ?_
  refine c_sipush (v := 976) k86_125 sp_976 ?_
  refine c_newi (n := 976) (b2 := 388) k86_128 rfl sM387 (by decide) (by decide) (by decide) (by decide) rfl ?_
  refine c_putr k86_130 (Or.inr ⟨_, rfl⟩) (by decide) sM371 (by decide) (by decide) ?_
  have J := jM_s (f := 16) (b := 387) (by decide) rfl rfl J
  generalize en_ur im15 387 (fun _ => 0) = im16 at J ⊢
  generalize en_u2 (en_ur rm15 387 (fun _ => none)) 371 16 (some 387) = rm16 at J ⊢
  refine c_aload_n k86_133 rfl ?_
  refine c_bipush (v := 61) k86_134 bp_61 ?_
  refine c_newi (n := 61) (b2 := 389) k86_136 rfl sM388 (by decide) (by decide) (by decide) (by decide) rfl ?_
  refine c_putr k86_138 (Or.inr ⟨_, rfl⟩) (by decide) sM371 (by decide) (by decide) ?_
  have J := jM_s (f := 17) (b := 388) (by decide) rfl rfl J
  generalize en_ur im16 388 (fun _ => 0) = im17 at J ⊢
  generalize en_u2 (en_ur rm16 388 (fun _ => none)) 371 17 (some 388) = rm17 at J ⊢
  refine c_aload_n k86_141 rfl ?_
  refine c_bipush (v := 122) k86_142 bp_122 ?_
  refine c_newi (n := 122) (b2 := 390) k86_144 rfl sM389 (by decide) (by decide) (by decide) (by decide) rfl ?_
  refine c_putr k86_146 (Or.inr ⟨_, rfl⟩) (by decide) sM371 (by decide) (by decide) ?_
  have J := jM_s (f := 18) (b := 389) (by decide) rfl rfl J
  generalize en_ur im17 389 (fun _ => 0) = im18 at J ⊢
  generalize en_u2 (en_ur rm17 389 (fun _ => none)) 371 18 (some 389) = rm18 at J ⊢
  refine c_aload_n k86_149 rfl ?_
  refine c_bipush (v := 122) k86_150 bp_122 ?_
  refine c_newi (n := 122) (b2 := 391) k86_152 rfl sM390 (by decide) (by decide) (by decide) (by decide) rfl ?_
  refine c_putr k86_154 (Or.inr ⟨_, rfl⟩) (by decide) sM371 (by decide) (by decide) ?_
  have J := jM_s (f := 19) (b := 390) (by decide) rfl rfl J
  generalize en_ur im18 390 (fun _ => 0) = im19 at J ⊢
  generalize en_u2 (en_ur rm18 390 (fun _ => none)) 371 19 (some 390) = rm19 at J ⊢
  refine c_aload_n k86_157 rfl ?_
  refine c_sipush (v := 1952) k86_158 sp_1952 ?_
  refine c_newi (n := 1952) (b2 := 392) k86_161 rfl sM391 (by decide) (by decide) (by decide) (by decide) rfl ?_
  refine c_putr k86_163 (Or.inr ⟨_, rfl⟩) (by decide) sM371 (by decide) (by decide) ?_
  have J := jM_s (f := 20) (b := 391) (by decide) rfl rfl J
  generalize en_ur im19 391 (fun _ => 0) = im20 at J ⊢
  generalize en_u2 (en_ur rm19 391 (fun _ => none)) 371 20 (some 391) = rm20 at J ⊢
  refine c_aload_n k86_166 rfl ?_
  refine c_bipush (v := 8) k86_167 bp_8 ?_
  refine c_newi (n := 8) (b2 := 393) k86_169 rfl sM392 (by decide) (by decide) (by decide) (by decide) rfl ?_
  refine c_putr k86_171 (Or.inr ⟨_, rfl⟩) (by decide) sM371 (by decide) (by decide) ?_
  have J := jM_s (f := 21) (b := 392) (by decide) rfl rfl J
  generalize en_ur im20 392 (fun _ => 0) = im21 at J ⊢
  generalize en_u2 (en_ur rm20 392 (fun _ => none)) 371 21 (some 392) = rm21 at J ⊢
  refine c_aload_n k86_174 rfl ?_
  refine c_bipush (v := 20) k86_175 bp_20 ?_
  refine c_newi (n := 20) (b2 := 394) k86_177 rfl sM393 (by decide) (by decide) (by decide) (by decide) rfl ?_
  refine c_putr k86_179 (Or.inr ⟨_, rfl⟩) (by decide) sM371 (by decide) (by decide) ?_
  have J := jM_s (f := 24) (b := 393) (by decide) rfl rfl J
  generalize en_ur im21 393 (fun _ => 0) = im22 at J ⊢
  generalize en_u2 (en_ur rm21 393 (fun _ => none)) 371 24 (some 393) = rm22 at J ⊢
  refine c_aload_n k86_182 rfl ?_
  refine c_sipush (v := 240) k86_183 sp_240 ?_
  refine c_newi (n := 240) (b2 := 395) k86_186 rfl sM394 (by decide) (by decide) (by decide) (by decide) rfl ?_
  refine c_putr k86_188 (Or.inr ⟨_, rfl⟩) (by decide) sM371 (by decide) (by decide) ?_
  have J := jM_s (f := 27) (b := 394) (by decide) rfl rfl J
  generalize en_ur im22 394 (fun _ => 0) = im23 at J ⊢
  generalize en_u2 (en_ur rm22 394 (fun _ => none)) 371 27 (some 394) = rm23 at J ⊢
  refine c_aload_n k86_191 rfl ?_
  refine c_bipush (v := 60) k86_192 bp_60 ?_
  refine c_newi (n := 60) (b2 := 396) k86_194 rfl sM395 (by decide) (by decide) (by decide) (by decide) rfl ?_
  refine c_putr k86_196 (Or.inr ⟨_, rfl⟩) (by decide) sM371 (by decide) (by decide) ?_
  have J := jM_s (f := 28) (b := 395) (by decide) rfl rfl J
  generalize en_ur im23 395 (fun _ => 0) = im24 at J ⊢
  generalize en_u2 (en_ur rm23 395 (fun _ => none)) 371 28 (some 395) = rm24 at J ⊢
  refine c_aload_n k86_199 rfl ?_
  refine c_bipush (v := 60) k86_200 bp_60 ?_
  refine c_newi (n := 60) (b2 := 397) k86_202 rfl sM396 (by decide) (by decide) (by decide) (by decide) rfl ?_
  refine c_putr k86_204 (Or.inr ⟨_, rfl⟩) (by decide) sM371 (by decide) (by decide) ?_
  have J := jM_s (f := 29) (b := 396) (by decide) rfl rfl J
  generalize en_ur im24 396 (fun _ => 0) = im25 at J ⊢
  generalize en_u2 (en_ur rm24 396 (fun _ => none)) 371 29 (some 396) = rm25 at J ⊢
  refine c_aload_n k86_207 rfl ?_
  refine c_iconst (v := 3) k86_208 ic_3 ?_
  refine c_newz (n := 3) (b2 := 398) k86_209 rfl sM397 (by decide) (by decide) (by decide) (by decide) rfl ?_
  refine c_putr k86_211 (Or.inr ⟨_, rfl⟩) (by decide) sM371 (by decide) (by decide) ?_
  have J := jM_s (f := 30) (b := 397) (by decide) rfl rfl J
  generalize en_ur im25 397 (fun _ => 0) = im26 at J ⊢
  generalize en_u2 (en_ur rm25 397 (fun _ => none)) 371 30 (some 397) = rm26 at J ⊢
  refine c_aload_n k86_214 rfl ?_
  refine c_iconst (v := 3) k86_215 ic_3 ?_
  refine c_newi (n := 3) (b2 := 399) k86_216 rfl sM398 (by decide) (by decide) (by decide) (by decide) rfl ?_
  refine c_putr k86_218 (Or.inr ⟨_, rfl⟩) (by decide) sM371 (by decide) (by decide) ?_
  have J := jM_s (f := 31) (b := 398) (by decide) rfl rfl J
  generalize en_ur im26 398 (fun _ => 0) = im27 at J ⊢
  generalize en_u2 (en_ur rm26 398 (fun _ => none)) 371 31 (some 398) = rm27 at J ⊢
  refine c_aload_n k86_221 rfl ?_
  refine c_bipush (v := 120) k86_222 bp_120 ?_
  refine c_newi (n := 120) (b2 := 400) k86_224 rfl sM399 (by decide) (by decide) (by decide) (by decide) rfl ?_
  refine c_putr k86_226 (Or.inr ⟨_, rfl⟩) (by decide) sM371 (by decide) (by decide) ?_
  have J := jM_s (f := 32) (b := 399) (by decide) rfl rfl J
  generalize en_ur im27 399 (fun _ => 0) = im28 at J ⊢
  generalize en_u2 (en_ur rm27 399 (fun _ => none)) 371 32 (some 399) = rm28 at J ⊢
  refine c_aload_n k86_229 rfl ?_
  refine c_iconst (v := 3) k86_230 ic_3 ?_
  refine c_newi (n := 3) (b2 := 401) k86_231 rfl sM400 (by decide) (by decide) (by decide) (by decide) rfl ?_
  refine c_putr k86_233 (Or.inr ⟨_, rfl⟩) (by decide) sM371 (by decide) (by decide) ?_
  have J := jM_s (f := 33) (b := 400) (by decide) rfl rfl J
  generalize en_ur im28 400 (fun _ => 0) = im29 at J ⊢
  generalize en_u2 (en_ur rm28 400 (fun _ => none)) 371 33 (some 400) = rm29 at J ⊢
  refine c_aload_n k86_236 rfl ?_
  refine c_iconst (v := -1) k86_237 ic_m1 ?_
  refine c_puti k86_238 (by decide) sM371 (by decide) (by decide) ?_
  have J : jM im rm 29 (-1) (en_u2 im29 371 34 (-1)) rm29 := ⟨fun c hc => ⟨by rw [en_u2_off (by omega)]; exact (J.1 c hc).1, (J.1 c hc).2⟩, fun k => by
      by_cases z : k = 34
      · subst z; rw [u2_eq, if_pos rfl]
      · have := J.2.1 k; rw [if_neg z] at this; rw [u2_ne (Or.inr z), if_neg z]; exact this, fun c c1 c2 k => by rw [u2_ne (by omega)]; exact J.2.2.1 c c1 c2 k, J.2.2.2⟩
  generalize en_u2 im29 371 34 (-1) = imx at J ⊢
  refine c_aload_n k86_241 rfl ?_
  refine c_bipush (v := 40) k86_242 bp_40 ?_
  refine c_newi (n := 40) (b2 := 402) k86_244 rfl sM401 (by decide) (by decide) (by decide) (by decide) rfl ?_
  refine c_putr k86_246 (Or.inr ⟨_, rfl⟩) (by decide) sM371 (by decide) (by decide) ?_
  have J := jM_s (f := 35) (b := 401) (by decide) rfl rfl J
  generalize en_ur imx 401 (fun _ => 0) = im30 at J ⊢
  generalize en_u2 (en_ur rm29 401 (fun _ => none)) 371 35 (some 401) = rm30 at J ⊢
  refine c_aload_n k86_249 rfl ?_
  refine c_iconst (v := 4) k86_250 ic_4 ?_
  refine c_newz (n := 4) (b2 := 403) k86_251 rfl sM402 (by decide) (by decide) (by decide) (by decide) rfl ?_
  refine c_putr k86_253 (Or.inr ⟨_, rfl⟩) (by decide) sM371 (by decide) (by decide) ?_
  have J := jM_s (f := 37) (b := 402) (by decide) rfl rfl J
  generalize en_ur im30 402 (fun _ => 0) = im31 at J ⊢
  generalize en_u2 (en_ur rm30 402 (fun _ => none)) 371 37 (some 402) = rm31 at J ⊢
  refine c_aload_n k86_256 rfl ?_
  refine c_iconst (v := 4) k86_257 ic_4 ?_
  refine c_newi (n := 4) (b2 := 404) k86_258 rfl sM403 (by decide) (by decide) (by decide) (by decide) rfl ?_
  refine c_putr k86_260 (Or.inr ⟨_, rfl⟩) (by decide) sM371 (by decide) (by decide) ?_
  have J := jM_s (f := 38) (b := 403) (by decide) rfl rfl J
  generalize en_ur im31 403 (fun _ => 0) = im32 at J ⊢
  generalize en_u2 (en_ur rm31 403 (fun _ => none)) 371 38 (some 403) = rm32 at J ⊢
  refine c_aload_n k86_263 rfl ?_
  refine c_iconst (v := 4) k86_264 ic_4 ?_
  refine c_newi (n := 4) (b2 := 405) k86_265 rfl sM404 (by decide) (by decide) (by decide) (by decide) rfl ?_
  refine c_putr k86_267 (Or.inr ⟨_, rfl⟩) (by decide) sM371 (by decide) (by decide) ?_
  have J := jM_s (f := 39) (b := 404) (by decide) rfl rfl J
  generalize en_ur im32 404 (fun _ => 0) = im33 at J ⊢
  generalize en_u2 (en_ur rm32 404 (fun _ => none)) 371 39 (some 404) = rm33 at J ⊢
  refine c_aload_n k86_270 rfl ?_
  refine c_bipush (v := 16) k86_271 bp_16 ?_
  refine c_newi (n := 16) (b2 := 406) k86_273 rfl sM405 (by decide) (by decide) (by decide) (by decide) rfl ?_
  refine c_putr k86_275 (Or.inr ⟨_, rfl⟩) (by decide) sM371 (by decide) (by decide) ?_
  have J := jM_s (f := 40) (b := 405) (by decide) rfl rfl J
  generalize en_ur im33 405 (fun _ => 0) = im34 at J ⊢
  generalize en_u2 (en_ur rm33 405 (fun _ => none)) 371 40 (some 405) = rm34 at J ⊢
  refine c_aload_n k86_278 rfl ?_
  refine c_bipush (v := 16) k86_279 bp_16 ?_
  refine c_newi (n := 16) (b2 := 407) k86_281 rfl sM406 (by decide) (by decide) (by decide) (by decide) rfl ?_
  refine c_putr k86_283 (Or.inr ⟨_, rfl⟩) (by decide) sM371 (by decide) (by decide) ?_
  have J := jM_s (f := 41) (b := 406) (by decide) rfl rfl J
  generalize en_ur im34 406 (fun _ => 0) = im35 at J ⊢
  generalize en_u2 (en_ur rm34 406 (fun _ => none)) 371 41 (some 406) = rm35 at J ⊢
  refine c_aload_n k86_286 rfl ?_
  refine c_iconst (v := 4) k86_287 ic_4 ?_
  refine c_newi (n := 4) (b2 := 408) k86_288 rfl sM407 (by decide) (by decide) (by decide) (by decide) rfl ?_
  refine c_putr k86_290 (Or.inr ⟨_, rfl⟩) (by decide) sM371 (by decide) (by decide) ?_
  have J := jM_s (f := 42) (b := 407) (by decide) rfl rfl J
  generalize en_ur im35 407 (fun _ => 0) = im36 at J ⊢
  generalize en_u2 (en_ur rm35 407 (fun _ => none)) 371 42 (some 407) = rm36 at J ⊢
  refine c_aload_n k86_293 rfl ?_
  refine c_bipush (v := 60) k86_294 bp_60 ?_
  refine c_newz (n := 60) (b2 := 409) k86_296 rfl sM408 (by decide) (by decide) (by decide) (by decide) rfl ?_
  refine c_putr k86_298 (Or.inr ⟨_, rfl⟩) (by decide) sM371 (by decide) (by decide) ?_
  have J := jM_s (f := 43) (b := 408) (by decide) rfl rfl J
  generalize en_ur im36 408 (fun _ => 0) = im37 at J ⊢
  generalize en_u2 (en_ur rm36 408 (fun _ => none)) 371 43 (some 408) = rm37 at J ⊢
  refine c_aload_n k86_301 rfl ?_
  refine c_bipush (v := 9) k86_302 bp_9 ?_
  refine c_newz (n := 9) (b2 := 410) k86_304 rfl sM409 (by decide) (by decide) (by decide) (by decide) rfl ?_
  refine c_putr k86_306 (Or.inr ⟨_, rfl⟩) (by decide) sM371 (by decide) (by decide) ?_
  have J := jM_s (f := 44) (b := 409) (by decide) rfl rfl J
  generalize en_ur im37 409 (fun _ => 0) = im38 at J ⊢
  generalize en_u2 (en_ur rm37 409 (fun _ => none)) 371 44 (some 409) = rm38 at J ⊢
  exact c_retv k86_309 rfl rfl (by decide) (h _ _ J)
