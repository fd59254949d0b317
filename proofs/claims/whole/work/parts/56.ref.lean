/-! THE STATE after some blocks, as the reference works it out: versions, values, who was met, flags of the last block *-/
abbrev gS : Type := (Nat → Int32) × (Nat → Int32) × (Nat → Int32) × (Nat → Int32)
def wV (im : Nat → Nat → Int32) (t : Nat) (v : Int32) (n : Nat) (ver : Nat → Int32) : Nat → Int32 := fun k => if k < n ∧ 0 < im 386 (16 * t + k) then (if im 386 (16 * t + k) = 1 then v else 0) else ver k
def wW (im : Nat → Nat → Int32) (t n : Nat) (val : Nat → Int32) : Nat → Int32 := fun k => if k < n ∧ 0 < im 386 (16 * t + k) then (if im 386 (16 * t + k) = 1 then im 387 (16 * t + k) else 0) else val k
def gT (im : Nat → Nat → Int32) (b i : Nat) : Nat := tn (im 394 (4 * tn (im 401 b) + i))
def gTx (im : Nat → Nat → Int32) (b i : Nat) (s : gS) : gS :=
  (if gFlag im s.1 s.2.2.1 (gT im b i) = 0 then wV im (gT im b i) (nI (1 + 4 * b + i)) 16 s.1 else s.1, if gFlag im s.1 s.2.2.1 (gT im b i) = 0 then wW im (gT im b i) 16 s.2.1 else s.2.1, upd s.2.2.1 (gT im b i) 1, upd s.2.2.2 i (gFlag im s.1 s.2.2.1 (gT im b i)))
def gBk (im : Nat → Nat → Int32) (b : Nat) (s : gS) : Nat → gS
  | 0 => s
  | i + 1 => gTx im b i (gBk im b s i)
def gCh (im : Nat → Nat → Int32) (f0 : Nat → Int32) : Nat → gS
  | 0 => ((fun _ => 0), (fun _ => 0), (fun _ => 0), f0)
  | b + 1 => gBk im b (gCh im f0 b) (tn (im 395 (tn (im 401 b))))
def GR (im m : Nat → Nat → Int32) (s : gS) : Prop := (∀ c, c < 405 ∨ 409 < c → m c = im c) ∧ (∀ k, k < 16 → m 406 k = s.1 k) ∧ (∀ k, k < 16 → m 405 k = s.2.1 k) ∧ (∀ t, t < 60 → m 408 t = s.2.2.1 t) ∧ ∀ i, i < 4 → m 407 i = s.2.2.2 i
def okT (im : Nat → Nat → Int32) (t : Nat) : Prop := t < 60 ∧ im 381 t = nI (tn (im 381 t)) ∧ tn (im 381 t) < 4 ∧ okR im (tn (im 381 t)) ∧ im 388 t = nI (tn (im 388 t)) ∧ tn (im 388 t) ≤ 2
def okG (im : Nat → Nat → Int32) (N : Nat) : Prop := ∀ b, b < N → isN (im 401 b) 60 ∧ isN (im 395 (tn (im 401 b))) 5 ∧ ∀ i, i < tn (im 395 (tn (im 401 b))) → im 394 (4 * tn (im 401 b) + i) = nI (gT im b i) ∧ okT im (gT im b i)
theorem fulV_eq {im m : Nat → Nat → Int32} (h : ∀ c, c < 405 → m c = im c) (p : Nat) (e : Int32) : fulV m p e = fulV im p e := by
  have e1 : rR m p = rR im p := by unfold rR; rw [h 375 (by decide)]
  have e2 : rH m p = rH im p := by unfold rH; rw [h 380 (by decide)]
  have e3 : rK m p = rK im p := by funext i; unfold rK; rw [h 376 (by decide)]
  have e4 : rN m p = rN im p := by funext i; unfold rN; rw [h 377 (by decide)]
  have e5 : rP m p = rP im p := by funext i q; unfold rP; rw [h 378 (by decide)]
  have e6 : rT m p = rT im p := by unfold rT; rw [e2, h 379 (by decide)]
  unfold fulV
  rw [e1, e2, e3, e4, e5, e6]
theorem okR_eq {im m : Nat → Nat → Int32} (h : ∀ c, c < 405 → m c = im c) {p : Nat} (hR : okR im p) : okR m p := by
  have e1 : rR m p = rR im p := by unfold rR; rw [h 375 (by decide)]
  have e2 : rH m p = rH im p := by unfold rH; rw [h 380 (by decide)]
  have e4 : rN m p = rN im p := by funext i; unfold rN; rw [h 377 (by decide)]
  have e5 : rP m p = rP im p := by funext i q; unfold rP; rw [h 378 (by decide)]
  have e6 : rT m p = rT im p := by unfold rT; rw [e2, h 379 (by decide)]
  unfold okR
  rw [e1, e2, e4, e5, e6, h 375 (by decide), h 380 (by decide), h 377 (by decide), h 378 (by decide), h 379 (by decide)]
  exact hR
theorem gFlag_eq {im m : Nat → Nat → Int32} {s : gS} (h : GR im m s) {t : Nat} (ht : t < 60) : gFlag m (m 406) (m 408) t = gFlag im s.1 s.2.2.1 t := by
  obtain ⟨h1, h2, -, h4, -⟩ := h
  have h1 : ∀ c, c < 405 → m c = im c := fun c hc => h1 c (Or.inl hc)
  have e1 : allN (sameV m (m 406) t) 16 = allN (sameV im s.1 t) 16 := allN_congr (fun k hk => by unfold sameV; rw [h1 385 (by decide), h2 k hk])
  have e2 : allN (alikK m (m 406) t) 16 = allN (alikK im s.1 t) 16 := allN_congr (fun k hk => by
    unfold alikK
    rw [h1 388 (by decide)]
    exact allN_congr (fun j hj => by unfold alikV; rw [h1 389 (by decide), h1 390 (by decide), h1 391 (by decide), h2 k hk]))
  unfold gFlag gRest
  rw [h4 t ht, fulV_eq h1, h1 381 (by decide), h1 383 (by decide), e1, e2]
theorem wV_z {im : Nat → Nat → Int32} {t : Nat} {v : Int32} {n : Nat} {f : Nat → Int32} (h : ¬ 0 < im 386 (16 * t + n)) : wV im t v (n + 1) f = wV im t v n f := by
  funext k
  unfold wV
  by_cases hk : k = n
  · subst hk; rw [if_neg (fun z => h z.2), if_neg (fun z => h z.2)]
  · have : (k < n + 1) = (k < n) := by apply propext; omega
    simp only [this]
theorem wW_z {im : Nat → Nat → Int32} {t n : Nat} {f : Nat → Int32} (h : ¬ 0 < im 386 (16 * t + n)) : wW im t (n + 1) f = wW im t n f := by
  funext k
  unfold wW
  by_cases hk : k = n
  · subst hk; rw [if_neg (fun z => h z.2), if_neg (fun z => h z.2)]
  · have : (k < n + 1) = (k < n) := by apply propext; omega
    simp only [this]
theorem wV_s {im : Nat → Nat → Int32} {t : Nat} {v x : Int32} {n : Nat} {f : Nat → Int32} (h : 0 < im 386 (16 * t + n)) (hx : x = if im 386 (16 * t + n) = 1 then v else 0) : (fun k => if k = n then x else wV im t v n f k) = wV im t v (n + 1) f := by
  funext k
  unfold wV
  by_cases hk : k = n
  · subst hk; rw [if_pos rfl, if_pos ⟨by omega, h⟩]; exact hx
  · have : (k < n + 1) = (k < n) := by apply propext; omega
    simp only [if_neg hk, this]
theorem wW_s {im : Nat → Nat → Int32} {t n : Nat} {x : Int32} {f : Nat → Int32} (h : 0 < im 386 (16 * t + n)) (hx : x = if im 386 (16 * t + n) = 1 then im 387 (16 * t + n) else 0) : (fun k => if k = n then x else wW im t n f k) = wW im t (n + 1) f := by
  funext k
  unfold wW
  by_cases hk : k = n
  · subst hk; rw [if_pos rfl, if_pos ⟨by omega, h⟩]; exact hx
  · have : (k < n + 1) = (k < n) := by apply propext; omega
    simp only [if_neg hk, this]
set_option maxRecDepth 20000 in
set_option maxHeartbeats 4000000 in
theorem l91w {LS : Nat} {rm : Nat → Nat → Option Nat} {im : Nat → Nat → Int32} {P : Option Value → (Nat → Nat → Int32) → Prop} {h b id i t : Nat} (hO : isMo LS rm) (ht : t < 60) (hi4 : i < 4) (hb : b < 100) (hfl : im 407 i = 0) (kk : Gm LS rm 91 230 [.ref 371, .int (nI h), .int (nI b), .int (nI id), .int (nI i), .int (nI t), .int (nI 16)] [] (en_ur (en_ur im 405 (wW im t 16 (im 405))) 406 (wV im t (nI (1 + 4 * b + i)) 16 (im 406))) P) : ∀ (n j : Nat), j + n = 16 → Gm LS rm 91 114 [.ref (371), .int (nI h), .int (nI b), .int (nI id), .int (nI i), .int (nI t), .int (nI j)] [] (en_ur (en_ur im 405 (wW im t j (im 405))) 406 (wV im t (nI (1 + 4 * b + i)) j (im 406))) P := by
  intro n
  induction n with
  | zero =>
    intro j hj
    have hie : j = 16 := by omega
    subst hie
    refine g_iload k91_114 rfl ?_
    refine g_bipush (v := 16) k91_116 bp_16 ?_
    refine g_icmp_ge k91_118 (fun _ => ?_) (fun h9 => absurd (nI_le (Nat.le_refl _) (by decide)) h9)
    exact kk
  | succ n ih =>
    intro j hj
    have hlt : j < 16 := by omega
    refine g_iload k91_114 rfl ?_
    refine g_bipush (v := 16) k91_116 bp_16 ?_
    refine g_icmp_ge k91_118 (fun h9 => absurd h9 (nI_ge hlt (by decide))) (fun _ => ?_)
    refine g_aload_n k91_121 rfl ?_
    refine g_getr k91_122 (sM371) (by decide) (mo_flags hO) ?_
    refine g_iload k91_125 rfl ?_
    refine g_ialv (v := 0) k91_127 (sM407) (by omega) (by decide) (by rw [ur_ne (by decide), ur_ne (by decide)]; exact hfl) ?_
    refine g_if_ne k91_128 (fun h9 => absurd (rfl) h9) (fun _ => ?_)
    refine g_aload_n k91_131 rfl ?_
    refine g_getr k91_132 (sM371) (by decide) (mo_wrote hO) ?_
    refine g_bipush (v := 16) k91_135 bp_16 ?_
    refine g_iload k91_137 rfl ?_
    refine g_imul k91_139 ?_
    refine g_iload k91_140 rfl ?_
    refine g_iadd k91_142 ?_
    refine g_top (y := nI (16 * t + j)) (by rw [show (16 : Int32) = nI 16 from rfl, pk_mul, nI_add]) ?_
    refine g_ialv (v := im 386 (16 * t + j)) k91_143 (sM386) (by omega) (by decide) (by rw [ur_ne (by decide), ur_ne (by decide)]) ?_
    refine g_if_le k91_144 (fun g => ?_) (fun g => ?_)
    · refine g_iincv (y := nI (j + 1)) k91_224 rfl (by decide) (inc_1 j) rfl ?_
      refine g_goto k91_227 ?_
      have hz := Int32.not_lt.mpr g
      have := ih (j + 1) (by omega)
      rw [wV_z hz, wW_z hz] at this
      exact this
    · have hz := Int32.not_le.mp g
      refine g_aload_n k91_147 rfl ?_
      refine g_getr k91_148 (sM371) (by decide) (mo_value hO) ?_
      refine g_iload k91_151 rfl ?_
      refine g_aload_n k91_153 rfl ?_
      refine g_getr k91_154 (sM371) (by decide) (mo_wrote hO) ?_
      refine g_bipush (v := 16) k91_157 bp_16 ?_
      refine g_iload k91_159 rfl ?_
      refine g_imul k91_161 ?_
      refine g_iload k91_162 rfl ?_
      refine g_iadd k91_164 ?_
      refine g_top (y := nI (16 * t + j)) (by rw [show (16 : Int32) = nI 16 from rfl, pk_mul, nI_add]) ?_
      refine g_ialv (v := im 386 (16 * t + j)) k91_165 (sM386) (by omega) (by decide) (by rw [ur_ne (by decide), ur_ne (by decide)]) ?_
      refine g_iconst (v := 1) k91_166 ic_1 ?_
      refine g_icmp_ne k91_167 (fun d => ?_) (fun d => ?_)
      · refine g_iconst (v := 0) k91_186 ic_0 ?_
        refine g_iasv k91_187 (sM405) (by omega) (by decide) ?_
        refine g_aload_n k91_188 rfl ?_
        refine g_getr k91_189 (sM371) (by decide) (mo_version hO) ?_
        refine g_iload k91_192 rfl ?_
        refine g_aload_n k91_194 rfl ?_
        refine g_getr k91_195 (sM371) (by decide) (mo_wrote hO) ?_
        refine g_bipush (v := 16) k91_198 bp_16 ?_
        refine g_iload k91_200 rfl ?_
        refine g_imul k91_202 ?_
        refine g_iload k91_203 rfl ?_
        refine g_iadd k91_205 ?_
        refine g_top (y := nI (16 * t + j)) (by rw [show (16 : Int32) = nI 16 from rfl, pk_mul, nI_add]) ?_
        refine g_ialv (v := im 386 (16 * t + j)) k91_206 (sM386) (by omega) (by decide) (by rw [u2_ne (by omega), ur_ne (by decide), ur_ne (by decide)]) ?_
        refine g_iconst (v := 1) k91_207 ic_1 ?_
        refine g_icmp_ne k91_208 (fun _ => ?_) (fun h9 => absurd h9 (d))
        refine g_iconst (v := 0) k91_222 ic_0 ?_
        refine g_iasv k91_223 (sM406) (by omega) (by decide) ?_
        rw [show ∀ (A : Nat → Nat → Int32) (f g : Nat → Int32) (x y : Int32), en_u2 (en_u2 (en_ur (en_ur A 405 f) 406 g) 405 j x) 406 j y = en_ur (en_ur A 405 (fun k => if k = j then x else f k)) 406 (fun k => if k = j then y else g k) from fun A f g x y => by rw [ur_comm (show (405 : Nat) ≠ 406 by decide), ur_u2, ur_comm (show (406 : Nat) ≠ 405 by decide), ur_u2], wV_s hz (by rw [if_neg d]), wW_s hz (by rw [if_neg d])]
        refine g_iincv (y := nI (j + 1)) k91_224 rfl (by decide) (inc_1 j) rfl ?_
        refine g_goto k91_227 ?_
        exact ih (j + 1) (by omega)
      · refine g_aload_n k91_170 rfl ?_
        refine g_getr k91_171 (sM371) (by decide) (mo_written hO) ?_
        refine g_bipush (v := 16) k91_174 bp_16 ?_
        refine g_iload k91_176 rfl ?_
        refine g_imul k91_178 ?_
        refine g_iload k91_179 rfl ?_
        refine g_iadd k91_181 ?_
        refine g_top (y := nI (16 * t + j)) (by rw [show (16 : Int32) = nI 16 from rfl, pk_mul, nI_add]) ?_
        refine g_ialv (v := im 387 (16 * t + j)) k91_182 (sM387) (by omega) (by decide) (by rw [ur_ne (by decide), ur_ne (by decide)]) ?_
        refine g_goto k91_183 ?_
        refine g_iasv k91_187 (sM405) (by omega) (by decide) ?_
        refine g_aload_n k91_188 rfl ?_
        refine g_getr k91_189 (sM371) (by decide) (mo_version hO) ?_
        refine g_iload k91_192 rfl ?_
        refine g_aload_n k91_194 rfl ?_
        refine g_getr k91_195 (sM371) (by decide) (mo_wrote hO) ?_
        refine g_bipush (v := 16) k91_198 bp_16 ?_
        refine g_iload k91_200 rfl ?_
        refine g_imul k91_202 ?_
        refine g_iload k91_203 rfl ?_
        refine g_iadd k91_205 ?_
        refine g_top (y := nI (16 * t + j)) (by rw [show (16 : Int32) = nI 16 from rfl, pk_mul, nI_add]) ?_
        refine g_ialv (v := im 386 (16 * t + j)) k91_206 (sM386) (by omega) (by decide) (by rw [u2_ne (by omega), ur_ne (by decide), ur_ne (by decide)]) ?_
        refine g_iconst (v := 1) k91_207 ic_1 ?_
        refine g_icmp_ne k91_208 (fun h9 => absurd (d) h9) (fun _ => ?_)
        refine g_iconst (v := 1) k91_211 ic_1 ?_
        refine g_iconst (v := 4) k91_212 ic_4 ?_
        refine g_iload_n k91_213 rfl ?_
        refine g_imul k91_214 ?_
        refine g_iadd k91_215 ?_
        refine g_top (y := nI (1 + 4 * b)) (by rw [show (4 : Int32) = nI 4 from rfl, show (1 : Int32) = nI 1 from rfl, pk_mul, nI_add]) ?_
        refine g_iload k91_216 rfl ?_
        refine g_iadd k91_218 ?_
        refine g_top (y := nI (1 + 4 * b + i)) (nI_add _ _) ?_
        refine g_goto k91_219 ?_
        refine g_iasv k91_223 (sM406) (by omega) (by decide) ?_
        rw [show ∀ (A : Nat → Nat → Int32) (f g : Nat → Int32) (x y : Int32), en_u2 (en_u2 (en_ur (en_ur A 405 f) 406 g) 405 j x) 406 j y = en_ur (en_ur A 405 (fun k => if k = j then x else f k)) 406 (fun k => if k = j then y else g k) from fun A f g x y => by rw [ur_comm (show (405 : Nat) ≠ 406 by decide), ur_u2, ur_comm (show (406 : Nat) ≠ 405 by decide), ur_u2], wV_s hz (by rw [if_pos d]), wW_s hz (by rw [if_pos d])]
        refine g_iincv (y := nI (j + 1)) k91_224 rfl (by decide) (inc_1 j) rfl ?_
        refine g_goto k91_227 ?_
        exact ih (j + 1) (by omega)

set_option maxRecDepth 20000 in
set_option maxHeartbeats 4000000 in
theorem l91b {LS : Nat} {rm : Nat → Nat → Option Nat} {im : Nat → Nat → Int32} {P : Option Value → (Nat → Nat → Int32) → Prop} {h b : Nat} {s : gS} (hO : isMo LS rm) (hb : b < 100) (hG : okG im (b + 1)) (kk : ∀ (m : Nat → Nat → Int32) (u4 u5 u6 : Value), GR im m (gBk im b s (tn (im 395 (tn (im 401 b))))) → Gm LS rm 91 236 [.ref 371, .int (nI h), .int (nI b), .int (nI (tn (im 401 b))), u4, u5, u6] [] m P) : ∀ (n i : Nat), i + n = tn (im 395 (tn (im 401 b))) → ∀ (m : Nat → Nat → Int32) (u5 u6 : Value), GR im m (gBk im b s i) → Gm LS rm 91 66 [.ref 371, .int (nI h), .int (nI b), .int (nI (tn (im 401 b))), .int (nI i), u5, u6] [] m P := by
  obtain ⟨⟨x1, x2⟩, ⟨x3, x4⟩, x5⟩ := hG b (by omega)
  intro n
  induction n with
  | zero =>
    intro i hi m u5 u6 hg
    have hie : i = tn (im 395 (tn (im 401 b))) := by omega
    subst hie
    have q395 : m 395 = im 395 := hg.1 395 (by decide)
    refine g_iload k91_66 rfl ?_
    refine g_aload_n k91_68 rfl ?_
    refine g_getr k91_69 (sM371) (by decide) (mo_size hO) ?_
    refine g_iload_n k91_72 rfl ?_
    refine g_ialv (v := nI (tn (im 395 (tn (im 401 b))))) k91_73 (sM395) (x2) (by decide) (by rw [q395]; exact x3) ?_
    refine g_icmp_ge k91_74 (fun _ => ?_) (fun h9 => absurd (nI_le (Nat.le_refl _) (by omega)) h9)
    exact kk m _ u5 u6 hg
  | succ n ih =>
    intro i hi m u5 u6 hg
    have hlt : i < tn (im 395 (tn (im 401 b))) := by omega
    have q395 : m 395 = im 395 := hg.1 395 (by decide)
    have q394 : m 394 = im 394 := hg.1 394 (by decide)
    have hst : ∀ c, c < 405 → m c = im c := fun c hc => hg.1 c (Or.inl hc)
    obtain ⟨y1, y2, y3, y4, y5, y6, y7⟩ := x5 i hlt
    generalize ht : gT im b i = t at y1 y2 y3 y4 y5 y6 y7
    have hfe := gFlag_eq hg y2
    refine g_iload k91_66 rfl ?_
    refine g_aload_n k91_68 rfl ?_
    refine g_getr k91_69 (sM371) (by decide) (mo_size hO) ?_
    refine g_iload_n k91_72 rfl ?_
    refine g_ialv (v := nI (tn (im 395 (tn (im 401 b))))) k91_73 (sM395) (x2) (by decide) (by rw [q395]; exact x3) ?_
    refine g_icmp_ge k91_74 (fun h9 => absurd h9 (nI_ge hlt (by omega))) (fun _ => ?_)
    refine g_aload_n k91_77 rfl ?_
    refine g_getr k91_78 (sM371) (by decide) (mo_block hO) ?_
    refine g_iconst (v := 4) k91_81 ic_4 ?_
    refine g_iload_n k91_82 rfl ?_
    refine g_imul k91_83 ?_
    refine g_iload k91_84 rfl ?_
    refine g_iadd k91_86 ?_
    refine g_top (y := nI (4 * tn (im 401 b) + i)) (by rw [show (4 : Int32) = nI 4 from rfl, pk_mul, nI_add]) ?_
    refine g_ialv (v := nI t) k91_87 (sM394) (by omega) (by decide) (by rw [q394]; exact y1) ?_
    refine g_istore k91_88 (by decide) rfl ?_
    refine g_aload_n k91_90 rfl ?_
    refine g_getr k91_91 (sM371) (by decide) (mo_flags hO) ?_
    refine g_iload k91_94 rfl ?_
    refine g_aload_n k91_96 rfl ?_
    refine g_iload k91_97 rfl ?_
    refine g_inv1 k91_99 (sM371) rfl (by decide) (Nat.le_of_ble_eq_true rfl) (c92 (nr := tn (im 388 t)) hO y2 (by rw [hst 381 (by decide)]; exact y3) (by rw [hst 381 (by decide)]; exact y4) (by rw [hst 381 (by decide)]; exact okR_eq hst y5) (by rw [hst 388 (by decide)]; exact y6) y7 (fun m1 hoff => ?_))
    rw [hfe]
    have ho1 : ∀ c, c < 409 → m1 c = m c := fun c hc => hoff c (by omega)
    refine g_iasv k91_102 (sM407) (by omega) (by decide) ?_
    refine g_aload_n k91_103 rfl ?_
    refine g_getr k91_104 (sM371) (by decide) (mo_met hO) ?_
    refine g_iload k91_107 rfl ?_
    refine g_iconst (v := 1) k91_109 ic_1 ?_
    refine g_zasv k91_110 (sM408) (y2) (by decide) (by decide) ?_
    refine g_iconst (v := 0) k91_111 ic_0 ?_
    refine g_istore k91_112 (by decide) rfl ?_
    have hnew : ∀ (m2 : Nat → Nat → Int32), (∀ c, c < 405 ∨ 409 < c → m2 c = im c) → (∀ k, k < 16 → m2 406 k = (gTx im b i (gBk im b s i)).1 k) → (∀ k, k < 16 → m2 405 k = (gTx im b i (gBk im b s i)).2.1 k) → m2 408 = upd (m1 408) t 1 → m2 407 = upd (m1 407) i (gFlag im (gBk im b s i).1 (gBk im b s i).2.2.1 t) → GR im m2 (gBk im b s (i + 1)) := by
      intro m2 a1 a2 a3 a4 a5
      refine ⟨a1, a2, a3, fun t2 ht2 => ?_, fun i2 hi2 => ?_⟩
      · rw [a4]
        show upd (m1 408) t 1 t2 = upd (gBk im b s i).2.2.1 (gT im b i) 1 t2
        rw [ht]
        unfold upd
        split
        · rfl
        · rw [ho1 408 (by decide)]; exact hg.2.2.2.1 t2 ht2
      · rw [a5]
        show upd (m1 407) i _ i2 = upd (gBk im b s i).2.2.2 i (gFlag im (gBk im b s i).1 (gBk im b s i).2.2.1 (gT im b i)) i2
        rw [ht]
        unfold upd
        split
        · rfl
        · rw [ho1 407 (by decide)]; exact hg.2.2.2.2 i2 hi2
    have h8 : en_u2 (en_u2 m1 407 i (gFlag im (gBk im b s i).1 (gBk im b s i).2.2.1 t)) 408 t 1 408 = upd (m1 408) t 1 := by rw [en_u2_row, en_u2_off (by decide)]
    have h7 : en_u2 (en_u2 m1 407 i (gFlag im (gBk im b s i).1 (gBk im b s i).2.2.1 t)) 408 t 1 407 = upd (m1 407) i (gFlag im (gBk im b s i).1 (gBk im b s i).2.2.1 t) := by rw [en_u2_off (by decide), en_u2_row]
    by_cases hf : gFlag im (gBk im b s i).1 (gBk im b s i).2.2.1 t = 0
    · have := l91w (im := en_u2 (en_u2 m1 407 i (gFlag im (gBk im b s i).1 (gBk im b s i).2.2.1 t)) 408 t 1) (h := h) (b := b) (id := tn (im 401 b)) (i := i) (t := t) (P := P) hO y2 (by omega) hb (by rw [h7]; unfold upd; rw [if_pos rfl]; exact hf) ?_ 16 0 (by omega)
      · have e5 : ∀ (A : Nat → Nat → Int32), en_ur (en_ur A 405 (wW A t 0 (A 405))) 406 (wV A t (nI (1 + 4 * b + i)) 0 (A 406)) = A := by
          intro A
          have z1 : wW A t 0 (A 405) = A 405 := by funext k; unfold wW; rw [if_neg (by omega)]
          have z2 : wV A t (nI (1 + 4 * b + i)) 0 (A 406) = A 406 := by funext k; unfold wV; rw [if_neg (by omega)]
          rw [z1, z2, ur_self, ur_self]
        rw [e5] at this
        exact this
      · refine g_iincv (y := nI (i + 1)) k91_230 rfl (by decide) (inc_1 i) rfl ?_
        refine g_goto k91_233 ?_
        refine ih (i + 1) (by omega) _ _ _ (hnew _ (fun c hc => ?_) (fun k hk => ?_) (fun k hk => ?_) ?_ ?_)
        · rw [ur_ne (by omega), ur_ne (by omega), en_u2_off (by omega), en_u2_off (by omega), hoff c (by omega)]
          exact hg.1 c hc
        · rw [ur_eq]
          show _ = (if gFlag im (gBk im b s i).1 (gBk im b s i).2.2.1 (gT im b i) = 0 then wV im (gT im b i) (nI (1 + 4 * b + i)) 16 (gBk im b s i).1 else (gBk im b s i).1) k
          rw [ht, if_pos hf]
          unfold wV
          rw [en_u2_off (b := 386) (by decide), en_u2_off (b := 386) (by decide), en_u2_off (b := 406) (by decide), en_u2_off (b := 406) (by decide), ho1 386 (by decide), ho1 406 (by decide), hst 386 (by decide), hg.2.1 k hk]
        · rw [ur_ne (by decide), ur_eq]
          show _ = (if gFlag im (gBk im b s i).1 (gBk im b s i).2.2.1 (gT im b i) = 0 then wW im (gT im b i) 16 (gBk im b s i).2.1 else (gBk im b s i).2.1) k
          rw [ht, if_pos hf]
          unfold wW
          rw [en_u2_off (b := 386) (by decide), en_u2_off (b := 386) (by decide), en_u2_off (b := 387) (by decide), en_u2_off (b := 387) (by decide), en_u2_off (b := 405) (by decide), en_u2_off (b := 405) (by decide), ho1 386 (by decide), ho1 387 (by decide), ho1 405 (by decide), hst 386 (by decide), hst 387 (by decide), hg.2.2.1 k hk]
        · rw [ur_ne (by decide), ur_ne (by decide)]
          exact h8
        · rw [ur_ne (by decide), ur_ne (by decide)]
          exact h7
    · refine g_iload k91_114 rfl ?_
      refine g_bipush (v := 16) k91_116 bp_16 ?_
      refine g_icmp_ge k91_118 (fun h9 => absurd h9 (by decide)) (fun _ => ?_)
      refine g_aload_n k91_121 rfl ?_
      refine g_getr k91_122 (sM371) (by decide) (mo_flags hO) ?_
      refine g_iload k91_125 rfl ?_
      refine g_ialv (v := gFlag im (gBk im b s i).1 (gBk im b s i).2.2.1 t) k91_127 (sM407) (by omega) (by decide) (by rw [h7]; unfold upd; rw [if_pos rfl]) ?_
      refine g_if_ne k91_128 (fun _ => ?_) (fun h9 => absurd h9 (hf))
      refine g_iincv (y := nI (i + 1)) k91_230 rfl (by decide) (inc_1 i) rfl ?_
      refine g_goto k91_233 ?_
      refine ih (i + 1) (by omega) _ _ _ (hnew _ (fun c hc => ?_) (fun k hk => ?_) (fun k hk => ?_) h8 h7)
      · rw [en_u2_off (by omega), en_u2_off (by omega), hoff c (by omega)]
        exact hg.1 c hc
      · rw [en_u2_off (by decide), en_u2_off (by decide), ho1 406 (by decide), hg.2.1 k hk]
        show _ = (if gFlag im (gBk im b s i).1 (gBk im b s i).2.2.1 (gT im b i) = 0 then wV im (gT im b i) (nI (1 + 4 * b + i)) 16 (gBk im b s i).1 else (gBk im b s i).1) k
        rw [ht, if_neg hf]
      · rw [en_u2_off (by decide), en_u2_off (by decide), ho1 405 (by decide), hg.2.2.1 k hk]
        show _ = (if gFlag im (gBk im b s i).1 (gBk im b s i).2.2.1 (gT im b i) = 0 then wW im (gT im b i) 16 (gBk im b s i).2.1 else (gBk im b s i).2.1) k
        rw [ht, if_neg hf]

set_option maxRecDepth 20000 in
set_option maxHeartbeats 4000000 in
theorem l91c {LS : Nat} {rm : Nat → Nat → Option Nat} {im : Nat → Nat → Int32} {P : Option Value → (Nat → Nat → Int32) → Prop} {hh : Nat} {f0 : Nat → Int32} (hO : isMo LS rm) (hh40 : hh ≤ 40) (hG : okG im hh) (h1 : ∀ m, GR im m (gCh im f0 hh) → P none m) : ∀ (n b : Nat), b + n = hh → ∀ (m : Nat → Nat → Int32) (u3 u4 u5 u6 : Value), GR im m (gCh im f0 b) → Gm LS rm 91 51 [.ref 371, .int (nI hh), .int (nI b), u3, u4, u5, u6] [] m P := by
  intro n
  induction n with
  | zero =>
    intro b hb m u3 u4 u5 u6 hg
    have hie : hh = b := by omega
    subst hie
    refine g_iload_n k91_51 rfl ?_
    refine g_iload_n k91_52 rfl ?_
    refine g_icmp_ge k91_53 (fun _ => ?_) (fun h9 => absurd (nI_le (Nat.le_refl _) (by omega)) h9)
    exact g_retv k91_242 rfl (h1 m hg)
  | succ n ih =>
    intro b hb m u3 u4 u5 u6 hg
    have hlt : b < hh := by omega
    obtain ⟨⟨x1, x2⟩, -, -⟩ := hG b hlt
    refine g_iload_n k91_51 rfl ?_
    refine g_iload_n k91_52 rfl ?_
    refine g_icmp_ge k91_53 (fun h9 => absurd h9 (nI_ge hlt (by omega))) (fun _ => ?_)
    refine g_aload_n k91_56 rfl ?_
    refine g_getr k91_57 (sM371) (by decide) (mo_chained hO) ?_
    refine g_iload_n k91_60 rfl ?_
    refine g_ialv (v := nI (tn (im 401 b))) k91_61 (sM401) (by omega) (by decide) (by rw [hg.1 401 (by decide)]; exact x1) ?_
    refine g_istore_n k91_62 (by decide) rfl ?_
    refine g_iconst (v := 0) k91_63 ic_0 ?_
    refine g_istore k91_64 (by decide) rfl ?_
    refine l91b (im := im) (s := gCh im f0 b) hO (by omega) (fun j hj => hG j (by omega)) (fun m2 v4 v5 v6 hg2 => ?_) (tn (im 395 (tn (im 401 b)))) 0 (by omega) m _ _ hg
    refine g_iincv (y := nI (b + 1)) k91_236 rfl (by decide) (inc_1 b) rfl ?_
    refine g_goto k91_239 ?_
    exact ih (b + 1) (by omega) m2 _ _ _ _ hg2

set_option maxRecDepth 20000 in
set_option maxHeartbeats 4000000 in
theorem l91m {LS : Nat} {rm : Nat → Nat → Option Nat} {im : Nat → Nat → Int32} {P : Option Value → (Nat → Nat → Int32) → Prop} {hh : Nat} {u3 u4 u5 u6 : Value} (hO : isMo LS rm) (kk : ∀ (u : Value), Gm LS rm 91 51 [.ref 371, .int (nI hh), .int (nI 0), u3, u4, u5, u6] [] (en_ur im 408 (fun t => if t < 60 then 0 else im 408 t)) P) : ∀ (n i : Nat), i + n = 60 → Gm LS rm 91 30 [.ref (371), .int (nI hh), .int (nI i), u3, u4, u5, u6] [] (en_ur im 408 (fun t => if t < i then 0 else im 408 t)) P := by
  intro n
  induction n with
  | zero =>
    intro i hi
    have hie : i = 60 := by omega
    subst hie
    refine g_iload_n k91_30 rfl ?_
    refine g_bipush (v := 60) k91_31 bp_60 ?_
    refine g_icmp_ge k91_33 (fun _ => ?_) (fun h9 => absurd (nI_le (Nat.le_refl _) (by decide)) h9)
    refine g_iconst (v := 0) k91_49 ic_0 ?_
    refine g_istore_n k91_50 (by decide) rfl ?_
    exact kk (.long 0)
  | succ n ih =>
    intro i hi
    have hlt : i < 60 := by omega
    refine g_iload_n k91_30 rfl ?_
    refine g_bipush (v := 60) k91_31 bp_60 ?_
    refine g_icmp_ge k91_33 (fun h9 => absurd h9 (nI_ge hlt (by decide))) (fun _ => ?_)
    refine g_aload_n k91_36 rfl ?_
    refine g_getr k91_37 (sM371) (by decide) (mo_met hO) ?_
    refine g_iload_n k91_40 rfl ?_
    refine g_iconst (v := 0) k91_41 ic_0 ?_
    refine g_zasv k91_42 (sM408) (hlt) (by decide) (by decide) ?_
    rw [ur_u2, show (fun k => if k = i then (0 : Int32) else if k < i then 0 else im 408 k) = (fun t => if t < i + 1 then 0 else im 408 t) from by funext k; by_cases z : k = i; rw [if_pos z, if_pos (by omega)]; rw [if_neg z]; by_cases y : k < i; rw [if_pos y, if_pos (by omega)]; rw [if_neg y, if_neg (by omega)]]
    refine g_iincv (y := nI (i + 1)) k91_43 rfl (by decide) (inc_1 i) rfl ?_
    refine g_goto k91_46 ?_
    exact ih (i + 1) (by omega)

set_option maxRecDepth 20000 in
set_option maxHeartbeats 4000000 in
theorem l91z {LS : Nat} {rm : Nat → Nat → Option Nat} {im : Nat → Nat → Int32} {P : Option Value → (Nat → Nat → Int32) → Prop} {hh : Nat} {u3 u4 u5 u6 : Value} (hO : isMo LS rm) (kk : Gm LS rm 91 30 [.ref 371, .int (nI hh), .int (nI 0), u3, u4, u5, u6] [] (en_ur (en_ur im 405 (fun t => if t < 16 then 0 else im 405 t)) 406 (fun t => if t < 16 then 0 else im 406 t)) P) : ∀ (n i : Nat), i + n = 16 → Gm LS rm 91 2 [.ref (371), .int (nI hh), .int (nI i), u3, u4, u5, u6] [] (en_ur (en_ur im 405 (fun t => if t < i then 0 else im 405 t)) 406 (fun t => if t < i then 0 else im 406 t)) P := by
  intro n
  induction n with
  | zero =>
    intro i hi
    have hie : i = 16 := by omega
    subst hie
    refine g_iload_n k91_2 rfl ?_
    refine g_bipush (v := 16) k91_3 bp_16 ?_
    refine g_icmp_ge k91_5 (fun _ => ?_) (fun h9 => absurd (nI_le (Nat.le_refl _) (by decide)) h9)
    refine g_iconst (v := 0) k91_28 ic_0 ?_
    refine g_istore_n k91_29 (by decide) rfl ?_
    exact kk
  | succ n ih =>
    intro i hi
    have hlt : i < 16 := by omega
    refine g_iload_n k91_2 rfl ?_
    refine g_bipush (v := 16) k91_3 bp_16 ?_
    refine g_icmp_ge k91_5 (fun h9 => absurd h9 (nI_ge hlt (by decide))) (fun _ => ?_)
    refine g_aload_n k91_8 rfl ?_
    refine g_getr k91_9 (sM371) (by decide) (mo_value hO) ?_
    refine g_iload_n k91_12 rfl ?_
    refine g_iconst (v := 0) k91_13 ic_0 ?_
    refine g_iasv k91_14 (sM405) (hlt) (by decide) ?_
    refine g_aload_n k91_15 rfl ?_
    refine g_getr k91_16 (sM371) (by decide) (mo_version hO) ?_
    refine g_iload_n k91_19 rfl ?_
    refine g_iconst (v := 0) k91_20 ic_0 ?_
    refine g_iasv k91_21 (sM406) (hlt) (by decide) ?_
    have e1 : ∀ (f : Nat → Int32), (fun k => if k = i then (0 : Int32) else if k < i then 0 else f k) = (fun t => if t < i + 1 then 0 else f t) := by
      intro f
      funext k
      by_cases z : k = i
      · rw [if_pos z, if_pos (by omega)]
      · rw [if_neg z]
        by_cases y : k < i
        · rw [if_pos y, if_pos (by omega)]
        · rw [if_neg y, if_neg (by omega)]
    rw [show ∀ (A : Nat → Nat → Int32) (f g : Nat → Int32), en_u2 (en_u2 (en_ur (en_ur A 405 f) 406 g) 405 i 0) 406 i 0 = en_ur (en_ur A 405 (fun k => if k = i then 0 else f k)) 406 (fun k => if k = i then 0 else g k) from fun A f g => by rw [ur_comm (show (405 : Nat) ≠ 406 by decide), ur_u2, ur_comm (show (406 : Nat) ≠ 405 by decide), ur_u2], e1, e1]
    refine g_iincv (y := nI (i + 1)) k91_22 rfl (by decide) (inc_1 i) rfl ?_
    refine g_goto k91_25 ?_
    exact ih (i + 1) (by omega)

set_option maxRecDepth 20000 in
set_option maxHeartbeats 4000000 in
theorem c91 {LS : Nat} {rm : Nat → Nat → Option Nat} {im : Nat → Nat → Int32} {P : Option Value → (Nat → Nat → Int32) → Prop} {hh : Nat} (hO : isMo LS rm) (hh40 : hh ≤ 40) (hG : okG im hh) (h1 : ∀ m, GR im m (gCh im (im 407) hh) → P none m) : Gm LS rm 91 0 (en_in 91 [.ref 371, .int (nI hh)]) [] im P := by
  show Gm LS rm 91 0 [.ref (371), .int (nI hh), .long 0, .long 0, .long 0, .long 0, .long 0] [] im P
  refine g_iconst (v := 0) k91_0 ic_0 ?_
  refine g_istore_n k91_1 (by decide) rfl ?_
  have e0 : en_ur (en_ur im 405 (fun t => if t < 0 then 0 else im 405 t)) 406 (fun t => if t < 0 then 0 else im 406 t) = im := by
    have z : ∀ f : Nat → Int32, (fun t => if t < 0 then 0 else f t) = f := fun f => by funext t; rw [if_neg (by omega)]
    rw [z, z, ur_self]
    have := ur_self (f := im) (b := 406)
    exact this
  have := l91z (im := im) (hh := hh) (P := P) (u3 := .long 0) (u4 := .long 0) (u5 := .long 0) (u6 := .long 0) hO ?_ 16 0 (by omega)
  · rw [e0] at this
    exact this
  · generalize hA : en_ur (en_ur im 405 (fun t => if t < 16 then 0 else im 405 t)) 406 (fun t => if t < 16 then 0 else im 406 t) = A
    have q0 : en_ur A 408 (fun t => if t < 0 then 0 else A 408 t) = A := by
      have z : ∀ f : Nat → Int32, (fun t => if t < 0 then 0 else f t) = f := fun f => by funext t; rw [if_neg (by omega)]
      rw [z, ur_self]
    have := l91m (im := A) (hh := hh) (P := P) (u3 := .long 0) (u4 := .long 0) (u5 := .long 0) (u6 := .long 0) hO (fun _ => ?_) 60 0 (by omega)
    · rw [q0] at this
      exact this
    · refine l91c (im := im) (f0 := im 407) hO hh40 hG h1 hh 0 (by omega) _ _ _ _ _ ⟨fun c hc => ?_, fun k hk => ?_, fun k hk => ?_, fun t ht => ?_, fun i hi => ?_⟩
      · rw [ur_ne (by omega), ← hA, ur_ne (by omega), ur_ne (by omega)]
      · rw [ur_ne (by decide), ← hA, ur_eq, if_pos hk]; rfl
      · rw [ur_ne (by decide), ← hA, ur_ne (by decide), ur_eq, if_pos hk]; rfl
      · rw [ur_eq, if_pos ht]; rfl
      · rw [ur_ne (by decide), ← hA, ur_ne (by decide), ur_ne (by decide)]; rfl

