/-! COPY of the reference *-/
def arO (im : Nat → Nat → Int32) (n : Nat → Nat) (a k q : Nat) : Bool := decide (q ≠ a) && decide (k < n q) && decide (im 399 (40 * q + k) = im 399 (40 * a + k))
def arQ (im : Nat → Nat → Int32) (n : Nat → Nat) (a c : Nat) : Prop := im 396 (tn (im 399 (40 * a + (c - 1)))) = im 398 a ∧ ∃ o, o < 3 ∧ o ≠ a ∧ c - 1 < n o ∧ im 399 (40 * o + (c - 1)) = im 399 (40 * a + (c - 1))
def cq1 (im : Nat → Nat → Int32) (a b l : Nat) (mv : Prop) [Decidable mv] : Nat → Nat → Int32 := if mv then en_u2 (en_u2 im 399 (40 * b + l) (im 399 (40 * a + l))) 400 b (nI (l + 1)) else im
def cq2 (im : Nat → Nat → Int32) (a b l : Nat) (mv : Prop) [Decidable mv] : Nat → Nat → Int32 := en_u2 (cq1 im a b l mv) 398 b (im 398 a)
def rpK (im : Nat → Nat → Int32) (a i : Nat) : Nat → Nat → Int32 := en_ur im 401 (fun k => if k < i then im 399 (40 * a + k) else im 401 k)
def cq3 (im : Nat → Nat → Int32) (a c N : Nat) : Nat → Nat → Int32 := if c < N then en_u2 (rpK im a N) 371 36 (nI N) else im
theorem rpK_0 {im : Nat → Nat → Int32} {a : Nat} : rpK im a 0 = im := by
  unfold rpK
  rw [show (fun k => if k < 0 then im 399 (40 * a + k) else im 401 k) = im 401 from by funext k; rw [if_neg (by omega)], ur_self]
theorem rpK_s {im : Nat → Nat → Int32} {a i : Nat} : en_u2 (rpK im a i) 401 i (im 399 (40 * a + i)) = rpK im a (i + 1) := by
  unfold rpK
  rw [ur_u2, show (fun k => if k = i then im 399 (40 * a + i) else if k < i then im 399 (40 * a + k) else im 401 k) = (fun k => if k < i + 1 then im 399 (40 * a + k) else im 401 k) from ?_]
  funext k
  by_cases z : k = i
  · subst z; rw [if_pos rfl, if_pos (by omega)]
  · rw [if_neg z]
    by_cases y : k < i
    · rw [if_pos y, if_pos (by omega)]
    · rw [if_neg y, if_neg (by omega)]
theorem arQ_of {im : Nat → Nat → Int32} {n : Nat → Nat} {a k : Nat} : arQ im n a (k + 1) ↔ (im 396 (tn (im 399 (40 * a + k))) = im 398 a ∧ anyN (arO im n a k) 3 = true) := by
  unfold arQ
  rw [show k + 1 - 1 = k by omega]
  apply and_congr Iff.rfl
  rw [anyN_iff]
  constructor
  · rintro ⟨o, h1, h2, h3, h4⟩
    exact ⟨o, h1, by simp [arO, h2, h3, h4]⟩
  · rintro ⟨o, h1, h2⟩
    simp [arO] at h2
    exact ⟨o, h1, h2.1.1, h2.1.2, h2.2⟩
set_option maxRecDepth 20000 in
set_option maxHeartbeats 4000000 in
theorem l111c {LS : Nat} {rm : Nat → Nat → Option Nat} {im : Nat → Nat → Int32} {P : Option Value → (Nat → Nat → Int32) → Prop} {a b l c N : Nat} {mo : Int32} {u7 u8 : Value} (hO : isMo LS rm) (ha : a < 3) (hN : N ≤ 40) (hc : im 371 36 = nI c) (hc2 : c ≤ 40) (h1 : P (some (.int mo)) (cq3 im a c N)) (hcN : c < N) : ∀ (n i : Nat), i + n = N → Gm LS rm 111 303 [.ref (371), .int (nI a), .int (nI b), .int (nI l), .int (mo), .int (nI N), .int (nI i), u7, u8] [] (rpK im a i) P := by
  intro n
  induction n with
  | zero =>
    intro i hi
    have hie : N = i := by omega
    subst hie
    refine g_iload k111_303 rfl ?_
    refine g_iload k111_305 rfl ?_
    refine g_icmp_ge k111_307 (fun _ => ?_) (fun h9 => absurd (nI_le (Nat.le_refl _) (by omega)) h9)
    refine g_aload_n k111_344 rfl ?_
    refine g_iload k111_345 rfl ?_
    refine g_aload_n k111_347 rfl ?_
    refine g_getv (v := nI c) k111_348 (sM371) (by decide) (by unfold rpK; rw [ur_ne (by decide)]; exact hc) ?_
    refine g_icmp_le k111_351 (fun h9 => absurd h9 (nI_ge hcN (by omega))) (fun _ => ?_)
    unfold cq3 at h1
    rw [if_pos hcN] at h1
    refine g_iload k111_354 rfl ?_
    refine g_goto k111_356 ?_
    refine g_puti k111_363 (by decide) (sM371) (by decide) ?_
    refine g_iload k111_366 rfl ?_
    exact g_reti k111_368 rfl (h1)
  | succ n ih =>
    intro i hi
    have hlt : i < N := by omega
    refine g_iload k111_303 rfl ?_
    refine g_iload k111_305 rfl ?_
    refine g_icmp_ge k111_307 (fun h9 => absurd h9 (nI_ge hlt (by omega))) (fun _ => ?_)
    refine g_iload k111_310 rfl ?_
    refine g_aload_n k111_312 rfl ?_
    refine g_getv (v := nI c) k111_313 (sM371) (by decide) (by unfold rpK; rw [ur_ne (by decide)]; exact hc) ?_
    refine g_icmp_le k111_316 (fun h9 => absurd h9 (nI_ge hcN (by omega))) (fun _ => ?_)
    refine g_aload_n k111_319 rfl ?_
    refine g_getr k111_320 (sM371) (by decide) (mo_chained hO) ?_
    refine g_iload k111_323 rfl ?_
    refine g_aload_n k111_325 rfl ?_
    refine g_getr k111_326 (sM371) (by decide) (mo_logs hO) ?_
    refine g_bipush (v := 40) k111_329 bp_40 ?_
    refine g_iload_n k111_331 rfl ?_
    refine g_imul k111_332 ?_
    refine g_iload k111_333 rfl ?_
    refine g_iadd k111_335 ?_
    refine g_top (y := nI (40 * a + i)) (by rw [show (40 : Int32) = nI 40 from rfl, pk_mul, nI_add]) ?_
    refine g_ialv (v := im 399 (40 * a + i)) k111_336 (sM399) (by omega) (by decide) (by unfold rpK; rw [ur_ne (by decide)]) ?_
    refine g_iasv k111_337 (sM401) (by omega) (by decide) ?_
    refine g_im rpK_s ?_
    refine g_iincv (y := nI (i + 1)) k111_338 rfl (by decide) (inc_1 i) rfl ?_
    refine g_goto k111_341 ?_
    exact ih (i + 1) (by omega)

set_option maxRecDepth 20000 in
set_option maxHeartbeats 4000000 in
theorem t111 {LS : Nat} {rm : Nat → Nat → Option Nat} {im : Nat → Nat → Int32} {P : Option Value → (Nat → Nat → Int32) → Prop} {a b l c N : Nat} {mo : Int32} {u7 u8 : Value} (hO : isMo LS rm) (ha : a < 3) (hN : N ≤ 40) (hc : im 371 36 = nI c) (hc2 : c ≤ 40) (h1 : P (some (.int mo)) (cq3 im a c N)) : Gm LS rm 111 303 [.ref (371), .int (nI a), .int (nI b), .int (nI l), .int (mo), .int (nI N), .int (nI 0), u7, u8] [] im P := by
  by_cases hcN : c < N
  · have := l111c (b := b) (l := l) (mo := mo) (u7 := u7) (u8 := u8) hO ha hN hc hc2 h1 hcN N 0 (by omega)
    rw [rpK_0] at this
    exact this
  · unfold cq3 at h1
    rw [if_neg hcN] at h1
    refine g_iload k111_303 rfl ?_
    refine g_iload k111_305 rfl ?_
    refine g_icmp_ge k111_307 (fun g => ?_) (fun g => ?_)
    · refine g_aload_n k111_344 rfl ?_
      refine g_iload k111_345 rfl ?_
      refine g_aload_n k111_347 rfl ?_
      refine g_getv (v := nI c) k111_348 (sM371) (by decide) (hc) ?_
      refine g_icmp_le k111_351 (fun _ => ?_) (fun h9 => absurd (nI_le (by omega) (by omega)) h9)
      refine g_aload_n k111_359 rfl ?_
      refine g_getv (v := nI c) k111_360 (sM371) (by decide) (hc) ?_
      refine g_puti k111_363 (by decide) (sM371) (by decide) ?_
      refine g_im (u2_self hc) ?_
      refine g_iload k111_366 rfl ?_
      exact g_reti k111_368 rfl (h1)
    · refine g_iload k111_310 rfl ?_
      refine g_aload_n k111_312 rfl ?_
      refine g_getv (v := nI c) k111_313 (sM371) (by decide) (hc) ?_
      refine g_icmp_le k111_316 (fun _ => ?_) (fun h9 => absurd (nI_le (by omega) (by omega)) h9)
      refine g_aload_n k111_344 rfl ?_
      refine g_iload k111_345 rfl ?_
      refine g_aload_n k111_347 rfl ?_
      refine g_getv (v := nI c) k111_348 (sM371) (by decide) (hc) ?_
      refine g_icmp_le k111_351 (fun _ => ?_) (fun h9 => absurd (nI_le (by omega) (by omega)) h9)
      refine g_aload_n k111_359 rfl ?_
      refine g_getv (v := nI c) k111_360 (sM371) (by decide) (hc) ?_
      refine g_puti k111_363 (by decide) (sM371) (by decide) ?_
      refine g_im (u2_self hc) ?_
      refine g_iload k111_366 rfl ?_
      exact g_reti k111_368 rfl (h1)

set_option maxRecDepth 20000 in
set_option maxHeartbeats 4000000 in
theorem l111q {LS : Nat} {rm : Nat → Nat → Option Nat} {im : Nat → Nat → Int32} {P : Option Value → (Nat → Nat → Int32) → Prop} {a b l kk0 : Nat} {mo v5 : Int32} {nf : Nat → Nat} (hO : isMo LS rm) (ha : a < 3) (hk : kk0 < nf a) (hn : ∀ o, o < 3 → im 400 o = nI (nf o) ∧ nf o ≤ 40) (kk : ∀ (u : Value), Gm LS rm 111 252 [.ref 371, .int (nI a), .int (nI b), .int (nI l), .int mo, .int v5, .int (nI kk0), .int (bI (anyN (arO im nf a kk0) 3)), u] [] im P) : ∀ (n i : Nat), i + n = 3 → Gm LS rm 111 182 [.ref (371), .int (nI a), .int (nI b), .int (nI l), .int (mo), .int (v5), .int (nI kk0), .int ((bI (anyN (arO im nf a kk0) i))), .int (nI i)] [] (im) P := by
  intro n
  induction n with
  | zero =>
    intro i hi
    have hie : i = 3 := by omega
    subst hie
    refine g_iload k111_182 rfl ?_
    refine g_iconst (v := 3) k111_184 ic_3 ?_
    refine g_icmp_ge k111_185 (fun _ => ?_) (fun h9 => absurd (nI_le (Nat.le_refl _) (by decide)) h9)
    exact kk _
  | succ n ih =>
    intro i hi
    have hlt : i < 3 := by omega
    refine g_iload k111_182 rfl ?_
    refine g_iconst (v := 3) k111_184 ic_3 ?_
    refine g_icmp_ge k111_185 (fun h9 => absurd h9 (nI_ge hlt (by decide))) (fun _ => ?_)
    obtain ⟨n1, n2⟩ := hn i hlt
    have n3 := (hn a ha).2
    refine g_iload k111_188 rfl ?_
    refine g_if_ne k111_190 (fun g => ?_) (fun g => ?_)
    · have b1 := bI_1 g
      refine g_iconst (v := 1) k111_239 ic_1 ?_
      refine g_goto k111_240 ?_
      refine g_istore k111_244 (by decide) rfl ?_
      refine g_iincv (y := nI (i + 1)) k111_246 rfl (by decide) (inc_1 i) rfl ?_
      refine g_goto k111_249 ?_
      have e1 : anyN (arO im nf a kk0) (i + 1) = true := by
        show (anyN (arO im nf a kk0) i || arO im nf a kk0 i) = _
        rw [b1]; rfl
      have := ih (i + 1) (by omega)
      rw [e1] at this
      exact this
    · have b0 := bI_0 g
      refine g_iload k111_193 rfl ?_
      refine g_iload_n k111_195 rfl ?_
      refine g_icmp_eq k111_196 (fun d1 => ?_) (fun d1 => ?_)
      · have z1 : i = a := nI_inj d1 (by omega) (by omega)
        refine g_iconst (v := 0) k111_243 ic_0 ?_
        refine g_istore k111_244 (by decide) rfl ?_
        refine g_iincv (y := nI (i + 1)) k111_246 rfl (by decide) (inc_1 i) rfl ?_
        refine g_goto k111_249 ?_
        have e1 : anyN (arO im nf a kk0) (i + 1) = false := by
          show (anyN (arO im nf a kk0) i || arO im nf a kk0 i) = _
          rw [b0]; show arO im nf a kk0 i = _; simp [arO, z1]
        have := ih (i + 1) (by omega)
        rw [e1] at this
        exact this
      · have z1 : i ≠ a := fun z => d1 (by rw [z])
        refine g_iload k111_199 rfl ?_
        refine g_aload_n k111_201 rfl ?_
        refine g_getr k111_202 (sM371) (by decide) (mo_logged hO) ?_
        refine g_iload k111_205 rfl ?_
        refine g_ialv (v := nI (nf i)) k111_207 (sM400) (hlt) (by decide) (n1) ?_
        refine g_icmp_ge k111_208 (fun d2 => ?_) (fun d2 => ?_)
        · have z2 : ¬ kk0 < nf i := fun z => nI_ge z (by omega) d2
          refine g_iconst (v := 0) k111_243 ic_0 ?_
          refine g_istore k111_244 (by decide) rfl ?_
          refine g_iincv (y := nI (i + 1)) k111_246 rfl (by decide) (inc_1 i) rfl ?_
          refine g_goto k111_249 ?_
          have e1 : anyN (arO im nf a kk0) (i + 1) = false := by
            show (anyN (arO im nf a kk0) i || arO im nf a kk0 i) = _
            rw [b0]; show arO im nf a kk0 i = _; simp [arO, z2]
          have := ih (i + 1) (by omega)
          rw [e1] at this
          exact this
        · have z2 : kk0 < nf i := Nat.not_le.mp (fun z => d2 (nI_le z (by omega)))
          refine g_aload_n k111_211 rfl ?_
          refine g_getr k111_212 (sM371) (by decide) (mo_logs hO) ?_
          refine g_bipush (v := 40) k111_215 bp_40 ?_
          refine g_iload k111_217 rfl ?_
          refine g_imul k111_219 ?_
          refine g_iload k111_220 rfl ?_
          refine g_iadd k111_222 ?_
          refine g_top (y := nI (40 * i + kk0)) (by rw [show (40 : Int32) = nI 40 from rfl, pk_mul, nI_add]) ?_
          refine g_ialv k111_223 (sM399) (by omega) (by decide) (rfl) ?_
          refine g_aload_n k111_224 rfl ?_
          refine g_getr k111_225 (sM371) (by decide) (mo_logs hO) ?_
          refine g_bipush (v := 40) k111_228 bp_40 ?_
          refine g_iload_n k111_230 rfl ?_
          refine g_imul k111_231 ?_
          refine g_iload k111_232 rfl ?_
          refine g_iadd k111_234 ?_
          refine g_top (y := nI (40 * a + kk0)) (by rw [show (40 : Int32) = nI 40 from rfl, pk_mul, nI_add]) ?_
          refine g_ialv k111_235 (sM399) (by omega) (by decide) (rfl) ?_
          refine g_icmp_ne k111_236 (fun d3 => ?_) (fun d3 => ?_)
          · refine g_iconst (v := 0) k111_243 ic_0 ?_
            refine g_istore k111_244 (by decide) rfl ?_
            refine g_iincv (y := nI (i + 1)) k111_246 rfl (by decide) (inc_1 i) rfl ?_
            refine g_goto k111_249 ?_
            have e1 : anyN (arO im nf a kk0) (i + 1) = false := by
              show (anyN (arO im nf a kk0) i || arO im nf a kk0 i) = _
              rw [b0]; show arO im nf a kk0 i = _; simp [arO, d3]
            have := ih (i + 1) (by omega)
            rw [e1] at this
            exact this
          · refine g_iconst (v := 1) k111_239 ic_1 ?_
            refine g_goto k111_240 ?_
            refine g_istore k111_244 (by decide) rfl ?_
            refine g_iincv (y := nI (i + 1)) k111_246 rfl (by decide) (inc_1 i) rfl ?_
            refine g_goto k111_249 ?_
            have e1 : anyN (arO im nf a kk0) (i + 1) = true := by
              show (anyN (arO im nf a kk0) i || arO im nf a kk0 i) = _
              rw [b0]; show arO im nf a kk0 i = _; simp [arO, z1, z2, d3]
            have := ih (i + 1) (by omega)
            rw [e1] at this
            exact this

set_option maxRecDepth 20000 in
set_option maxHeartbeats 4000000 in
theorem l111n {LS : Nat} {rm : Nat → Nat → Option Nat} {im : Nat → Nat → Int32} {P : Option Value → (Nat → Nat → Int32) → Prop} {a b l c : Nat} {mo : Int32} {n : Nat → Nat} (hO : isMo LS rm) (ha : a < 3) (hc : im 371 36 = nI c) (hc2 : c ≤ 40) (hn : ∀ o, o < 3 → im 400 o = nI (n o) ∧ n o ≤ 40) (hg : ∀ i, i < n a → isN (im 399 (40 * a + i)) 60) (h1 : ∀ N, N ≤ n a → (N = 0 ∨ arQ im n a N) → (∀ c, N < c → c ≤ n a → ¬ arQ im n a c) → P (some (.int mo)) (cq3 im a c N)) : ∀ (z i : Nat), i + z = n a → ∀ (N : Nat) (u7 u8 : Value), N ≤ i → (N = 0 ∨ arQ im n a N) → (∀ c, N < c → c ≤ i → ¬ arQ im n a c) → Gm LS rm 111 165 [.ref 371, .int (nI a), .int (nI b), .int (nI l), .int mo, .int (nI N), .int (nI i), u7, u8] [] im P := by
  obtain ⟨n1, n2⟩ := hn a ha
  intro z
  induction z with
  | zero =>
    intro i hz N u7 u8 hN q1 q2
    refine g_iload k111_165 rfl ?_
    refine g_aload_n k111_167 rfl ?_
    refine g_getr k111_168 (sM371) (by decide) (mo_logged hO) ?_
    refine g_iload_n k111_171 rfl ?_
    refine g_ialv (v := nI (n a)) k111_172 (sM400) (ha) (by decide) (n1) ?_
    refine g_icmp_ge k111_173 (fun _ => ?_) (fun h9 => absurd (nI_le (by omega) (by omega)) h9)
    refine g_iconst (v := 0) k111_300 ic_0 ?_
    refine g_istore k111_301 (by decide) rfl ?_
    exact t111 hO ha (by omega) hc hc2 (h1 N (by omega) q1 (fun c y1 y2 => q2 c y1 (by omega)))
  | succ z ih =>
    intro i hz N u7 u8 hN q1 q2
    have hlt : i < n a := by omega
    obtain ⟨x1, x2⟩ := hg i hlt
    refine g_iload k111_165 rfl ?_
    refine g_aload_n k111_167 rfl ?_
    refine g_getr k111_168 (sM371) (by decide) (mo_logged hO) ?_
    refine g_iload_n k111_171 rfl ?_
    refine g_ialv (v := nI (n a)) k111_172 (sM400) (ha) (by decide) (n1) ?_
    refine g_icmp_ge k111_173 (fun h9 => absurd h9 (nI_ge hlt (by omega))) (fun _ => ?_)
    refine g_iconst (v := 0) k111_176 ic_0 ?_
    refine g_istore k111_177 (by decide) rfl ?_
    refine g_iconst (v := 0) k111_179 ic_0 ?_
    refine g_istore k111_180 (by decide) rfl ?_
    refine l111q hO ha hlt hn (fun u => ?_) 3 0 (by omega)
    refine g_iload k111_252 rfl ?_
    refine g_if_eq k111_254 (fun g => ?_) (fun g => ?_)
    · have b0 := bI_0 g
      have w0 : ¬ arQ im n a (i + 1) := fun w => by rw [arQ_of, b0] at w; exact absurd w.2 (by decide)
      refine g_iload k111_290 rfl ?_
      refine g_istore k111_292 (by decide) rfl ?_
      refine g_iincv (y := nI (i + 1)) k111_294 rfl (by decide) (inc_1 i) rfl ?_
      refine g_goto k111_297 ?_
      exact ih (i + 1) (by omega) (N) _ _ (by omega) (q1) (fun c y1 y2 => by by_cases w : c = i + 1; (subst w; exact w0); exact q2 c y1 (by omega))
    · have b1 := bI_1 g
      refine g_aload_n k111_257 rfl ?_
      refine g_getr k111_258 (sM371) (by decide) (mo_cutIn hO) ?_
      refine g_aload_n k111_261 rfl ?_
      refine g_getr k111_262 (sM371) (by decide) (mo_logs hO) ?_
      refine g_bipush (v := 40) k111_265 bp_40 ?_
      refine g_iload_n k111_267 rfl ?_
      refine g_imul k111_268 ?_
      refine g_iload k111_269 rfl ?_
      refine g_iadd k111_271 ?_
      refine g_top (y := nI (40 * a + i)) (by rw [show (40 : Int32) = nI 40 from rfl, pk_mul, nI_add]) ?_
      refine g_ialv (v := nI (tn (im 399 (40 * a + i)))) k111_272 (sM399) (by omega) (by decide) (x1) ?_
      refine g_ialv k111_273 (sM396) (x2) (by decide) (rfl) ?_
      refine g_aload_n k111_274 rfl ?_
      refine g_getr k111_275 (sM371) (by decide) (mo_term hO) ?_
      refine g_iload_n k111_278 rfl ?_
      refine g_ialv k111_279 (sM398) (ha) (by decide) (rfl) ?_
      refine g_icmp_ne k111_280 (fun d => ?_) (fun d => ?_)
      · have w0 : ¬ arQ im n a (i + 1) := fun w => by rw [arQ_of] at w; exact d w.1
        refine g_iload k111_290 rfl ?_
        refine g_istore k111_292 (by decide) rfl ?_
        refine g_iincv (y := nI (i + 1)) k111_294 rfl (by decide) (inc_1 i) rfl ?_
        refine g_goto k111_297 ?_
        exact ih (i + 1) (by omega) (N) _ _ (by omega) (q1) (fun c y1 y2 => by by_cases w : c = i + 1; (subst w; exact w0); exact q2 c y1 (by omega))
      · have w0 : arQ im n a (i + 1) := arQ_of.mpr ⟨d, b1⟩
        refine g_iload k111_283 rfl ?_
        refine g_iconst (v := 1) k111_285 ic_1 ?_
        refine g_iadd k111_286 ?_
        refine g_top (y := nI (i + 1)) (nI_1 i) ?_
        refine g_goto k111_287 ?_
        refine g_istore k111_292 (by decide) rfl ?_
        refine g_iincv (y := nI (i + 1)) k111_294 rfl (by decide) (inc_1 i) rfl ?_
        refine g_goto k111_297 ?_
        exact ih (i + 1) (by omega) (i + 1) _ _ (by omega) (Or.inr w0) (fun c y1 y2 => absurd y1 (by omega))

set_option maxRecDepth 20000 in
set_option maxHeartbeats 4000000 in
theorem t111l {LS : Nat} {rm : Nat → Nat → Option Nat} {im : Nat → Nat → Int32} {P : Option Value → (Nat → Nat → Int32) → Prop} {a b l c : Nat} {n : Nat → Nat} (hO : isMo LS rm) (ha : a < 3) (hb : b < 3) (hab : a ≠ b) (hc : im 371 36 = nI c) (hc2 : c ≤ 40) (hn : ∀ o, o < 3 → im 400 o = nI (n o) ∧ n o ≤ 40) (hg : ∀ o, o < 3 → ∀ i, i < n o → isN (im 399 (40 * o + i)) 60) (hl1 : l ≤ n a) (hl2 : l ≤ n b) (h1 : ∀ N, N ≤ n a → (N = 0 ∨ arQ (cq2 im a b l (l < n a)) (cpn n b l (l < n a)) a N) → (∀ c, N < c → c ≤ n a → ¬ arQ (cq2 im a b l (l < n a)) (cpn n b l (l < n a)) a c) → P (some (.int (if l < n a then 1 else 0))) (cq3 (cq2 im a b l (l < n a)) a c N)) : ∀ (u4 u5 u6 u7 u8 : Value), Gm LS rm 111 93 [.ref 371, .int (nI a), .int (nI b), .int (nI l), u4, u5, u6, u7, u8] [] im P := by
  intro u4 u5 u6 u7 u8
  obtain ⟨n1, n2⟩ := hn a ha
  have r2c : ∀ x, x ≠ 398 → x ≠ 399 → x ≠ 400 → cq2 im a b l (l < n a) x = im x := by
    intro x y1 y2 y3
    unfold cq2 cq1
    rw [en_u2_off y1]
    split
    · rw [en_u2_off y3, en_u2_off y2]
    · rfl
  have rn : ∀ o, o < 3 → cq2 im a b l (l < n a) 400 o = nI (cpn n b l (l < n a) o) ∧ cpn n b l (l < n a) o ≤ 40 := by
    intro o ho
    unfold cq2 cq1 cpn
    rw [en_u2_off (by decide)]
    by_cases z : l < n a
    · rw [if_pos z]
      by_cases w : o = b
      · rw [w, u2_eq, if_pos ⟨rfl, z⟩]; exact ⟨rfl, by omega⟩
      · rw [if_neg (fun y => w y.1), u2_ne (by omega), en_u2_off (by decide)]; exact hn o ho
    · rw [if_neg z, if_neg (fun y => z y.2)]; exact hn o ho
  have ra : ∀ i, i < 40 → cq2 im a b l (l < n a) 399 (40 * a + i) = im 399 (40 * a + i) := by
    intro i hi
    have hnb := (hn b hb).2
    unfold cq2 cq1
    rw [en_u2_off (by decide)]
    by_cases z : l < n a
    · rw [if_pos z, en_u2_off (by decide), u2_ne (by omega)]
    · rw [if_neg z]
  have ca : cpn n b l (l < n a) a = n a := by unfold cpn; rw [if_neg (fun y => hab y.1)]
  have go := l111n (im := cq2 im a b l (l < n a)) (b := b) (l := l) (mo := if l < n a then 1 else 0) (n := cpn n b l (l < n a)) (P := P) hO ha (by rw [r2c 371 (by decide) (by decide) (by decide)]; exact hc) hc2 rn (fun i hi => by rw [ca] at hi; rw [ra i (by omega)]; exact hg a ha i hi) (by rw [ca]; exact h1) (n a) 0 (by rw [ca]; omega) 0 u7 u8 (by omega) (Or.inl rfl) (fun c y1 y2 => absurd y1 (by omega))
  unfold cq2 cq1 at go
  refine g_aload_n k111_93 rfl ?_
  refine g_getr k111_94 (sM371) (by decide) (mo_logged hO) ?_
  refine g_iload_n k111_97 rfl ?_
  refine g_ialv (v := nI (n a)) k111_98 (sM400) (ha) (by decide) (n1) ?_
  refine g_iload_n k111_99 rfl ?_
  refine g_icmp_le k111_100 (fun g => ?_) (fun g => ?_)
  · have hz : ¬ l < n a := fun z => nI_ge z (by omega) g
    simp only [if_neg hz] at go
    refine g_iconst (v := 0) k111_107 ic_0 ?_
    refine g_istore k111_108 (by decide) rfl ?_
    refine g_iload k111_110 rfl ?_
    refine g_iconst (v := 1) k111_112 ic_1 ?_
    refine g_icmp_ne k111_113 (fun _ => ?_) (fun h9 => absurd h9 (by decide))
    refine g_aload_n k111_147 rfl ?_
    refine g_getr k111_148 (sM371) (by decide) (mo_term hO) ?_
    refine g_iload_n k111_151 rfl ?_
    refine g_aload_n k111_152 rfl ?_
    refine g_getr k111_153 (sM371) (by decide) (mo_term hO) ?_
    refine g_iload_n k111_156 rfl ?_
    refine g_ialv k111_157 (sM398) (ha) (by decide) (rfl) ?_
    refine g_iasv k111_158 (sM398) (hb) (by decide) ?_
    refine g_iconst (v := 0) k111_159 ic_0 ?_
    refine g_istore k111_160 (by decide) rfl ?_
    refine g_iconst (v := 0) k111_162 ic_0 ?_
    refine g_istore k111_163 (by decide) rfl ?_
    exact go
  · have hz : l < n a := Nat.not_le.mp (fun z => g (nI_le z (by omega)))
    simp only [if_pos hz] at go
    have n4 := (hn b hb).2
    refine g_iconst (v := 1) k111_103 ic_1 ?_
    refine g_goto k111_104 ?_
    refine g_istore k111_108 (by decide) rfl ?_
    refine g_iload k111_110 rfl ?_
    refine g_iconst (v := 1) k111_112 ic_1 ?_
    refine g_icmp_ne k111_113 (fun h9 => absurd (rfl) h9) (fun _ => ?_)
    refine g_aload_n k111_116 rfl ?_
    refine g_getr k111_117 (sM371) (by decide) (mo_logs hO) ?_
    refine g_bipush (v := 40) k111_120 bp_40 ?_
    refine g_iload_n k111_122 rfl ?_
    refine g_imul k111_123 ?_
    refine g_iload_n k111_124 rfl ?_
    refine g_iadd k111_125 ?_
    refine g_top (y := nI (40 * b + l)) (by rw [show (40 : Int32) = nI 40 from rfl, pk_mul, nI_add]) ?_
    refine g_aload_n k111_126 rfl ?_
    refine g_getr k111_127 (sM371) (by decide) (mo_logs hO) ?_
    refine g_bipush (v := 40) k111_130 bp_40 ?_
    refine g_iload_n k111_132 rfl ?_
    refine g_imul k111_133 ?_
    refine g_iload_n k111_134 rfl ?_
    refine g_iadd k111_135 ?_
    refine g_top (y := nI (40 * a + l)) (by rw [show (40 : Int32) = nI 40 from rfl, pk_mul, nI_add]) ?_
    refine g_ialv k111_136 (sM399) (by omega) (by decide) (rfl) ?_
    refine g_iasv k111_137 (sM399) (by omega) (by decide) ?_
    refine g_aload_n k111_138 rfl ?_
    refine g_getr k111_139 (sM371) (by decide) (mo_logged hO) ?_
    refine g_iload_n k111_142 rfl ?_
    refine g_iload_n k111_143 rfl ?_
    refine g_iconst (v := 1) k111_144 ic_1 ?_
    refine g_iadd k111_145 ?_
    refine g_top (y := nI (l + 1)) (nI_1 l) ?_
    refine g_iasv k111_146 (sM400) (hb) (by decide) ?_
    refine g_aload_n k111_147 rfl ?_
    refine g_getr k111_148 (sM371) (by decide) (mo_term hO) ?_
    refine g_iload_n k111_151 rfl ?_
    refine g_aload_n k111_152 rfl ?_
    refine g_getr k111_153 (sM371) (by decide) (mo_term hO) ?_
    refine g_iload_n k111_156 rfl ?_
    refine g_ialv (v := im 398 a) k111_157 (sM398) (ha) (by decide) (by rw [en_u2_off (by decide), en_u2_off (by decide)]) ?_
    refine g_iasv k111_158 (sM398) (hb) (by decide) ?_
    refine g_iconst (v := 0) k111_159 ic_0 ?_
    refine g_istore k111_160 (by decide) rfl ?_
    refine g_iconst (v := 0) k111_162 ic_0 ?_
    refine g_istore k111_163 (by decide) rfl ?_
    exact go

set_option maxRecDepth 20000 in
set_option maxHeartbeats 4000000 in
theorem l111w {LS : Nat} {rm : Nat → Nat → Option Nat} {im : Nat → Nat → Int32} {P : Option Value → (Nat → Nat → Int32) → Prop} {a b c : Nat} {n : Nat → Nat} (hO : isMo LS rm) (ha : a < 3) (hb : b < 3) (hab : a ≠ b) (hc : im 371 36 = nI c) (hc2 : c ≤ 40) (hn : ∀ o, o < 3 → im 400 o = nI (n o) ∧ n o ≤ 40) (hg : ∀ o, o < 3 → ∀ i, i < n o → isN (im 399 (40 * o + i)) 60) (h1 : ∀ l, l ≤ n a → l ≤ n b → (∀ k, k < l → im 399 (40 * a + k) = im 399 (40 * b + k)) → (l < n a → l < n b → im 399 (40 * a + l) ≠ im 399 (40 * b + l)) → ∀ N, N ≤ n a → (N = 0 ∨ arQ (cq2 im a b l (l < n a)) (cpn n b l (l < n a)) a N) → (∀ c, N < c → c ≤ n a → ¬ arQ (cq2 im a b l (l < n a)) (cpn n b l (l < n a)) a c) → P (some (.int (if l < n a then 1 else 0))) (cq3 (cq2 im a b l (l < n a)) a c N)) : ∀ (z l : Nat), l + z = n a → l ≤ n b → (∀ k, k < l → im 399 (40 * a + k) = im 399 (40 * b + k)) → ∀ (u4 u5 u6 u7 u8 : Value), Gm LS rm 111 42 [.ref 371, .int (nI a), .int (nI b), .int (nI l), u4, u5, u6, u7, u8] [] im P := by
  obtain ⟨n1, n2⟩ := hn a ha
  obtain ⟨n3, n4⟩ := hn b hb
  intro z
  induction z with
  | zero =>
    intro l hz hlb he u4 u5 u6 u7 u8
    refine g_iload_n k111_42 rfl ?_
    refine g_aload_n k111_43 rfl ?_
    refine g_getr k111_44 (sM371) (by decide) (mo_logged hO) ?_
    refine g_iload_n k111_47 rfl ?_
    refine g_ialv (v := nI (n a)) k111_48 (sM400) (ha) (by decide) (n1) ?_
    refine g_icmp_ge k111_49 (fun _ => ?_) (fun h9 => absurd (nI_le (by omega) (by omega)) h9)
    exact t111l hO ha hb hab hc hc2 hn hg (by omega) hlb (h1 l (by omega) hlb he (fun y => absurd y (by omega))) _ _ _ _ _
  | succ z ih =>
    intro l hz hlb he u4 u5 u6 u7 u8
    have hlt : l < n a := by omega
    refine g_iload_n k111_42 rfl ?_
    refine g_aload_n k111_43 rfl ?_
    refine g_getr k111_44 (sM371) (by decide) (mo_logged hO) ?_
    refine g_iload_n k111_47 rfl ?_
    refine g_ialv (v := nI (n a)) k111_48 (sM400) (ha) (by decide) (n1) ?_
    refine g_icmp_ge k111_49 (fun h9 => absurd h9 (nI_ge hlt (by omega))) (fun _ => ?_)
    refine g_iload_n k111_52 rfl ?_
    refine g_aload_n k111_53 rfl ?_
    refine g_getr k111_54 (sM371) (by decide) (mo_logged hO) ?_
    refine g_iload_n k111_57 rfl ?_
    refine g_ialv (v := nI (n b)) k111_58 (sM400) (hb) (by decide) (n3) ?_
    refine g_icmp_ge k111_59 (fun g => ?_) (fun g => ?_)
    · have w : ¬ l < n b := fun y => nI_ge y (by omega) g
      exact t111l hO ha hb hab hc hc2 hn hg (by omega) hlb (h1 l (by omega) hlb he (fun _ y => absurd y w)) _ _ _ _ _
    · have w : l < n b := Nat.not_le.mp (fun y => g (nI_le y (by omega)))
      refine g_aload_n k111_62 rfl ?_
      refine g_getr k111_63 (sM371) (by decide) (mo_logs hO) ?_
      refine g_bipush (v := 40) k111_66 bp_40 ?_
      refine g_iload_n k111_68 rfl ?_
      refine g_imul k111_69 ?_
      refine g_iload_n k111_70 rfl ?_
      refine g_iadd k111_71 ?_
      refine g_top (y := nI (40 * a + l)) (by rw [show (40 : Int32) = nI 40 from rfl, pk_mul, nI_add]) ?_
      refine g_ialv k111_72 (sM399) (by omega) (by decide) (rfl) ?_
      refine g_aload_n k111_73 rfl ?_
      refine g_getr k111_74 (sM371) (by decide) (mo_logs hO) ?_
      refine g_bipush (v := 40) k111_77 bp_40 ?_
      refine g_iload_n k111_79 rfl ?_
      refine g_imul k111_80 ?_
      refine g_iload_n k111_81 rfl ?_
      refine g_iadd k111_82 ?_
      refine g_top (y := nI (40 * b + l)) (by rw [show (40 : Int32) = nI 40 from rfl, pk_mul, nI_add]) ?_
      refine g_ialv k111_83 (sM399) (by omega) (by decide) (rfl) ?_
      refine g_icmp_ne k111_84 (fun d => ?_) (fun d => ?_)
      · exact t111l hO ha hb hab hc hc2 hn hg (by omega) hlb (h1 l (by omega) hlb he (fun _ _ => d)) _ _ _ _ _
      · refine g_iincv (y := nI (l + 1)) k111_87 rfl (by decide) (inc_1 l) rfl ?_
        refine g_goto k111_90 ?_
        exact ih (l + 1) (by omega) (by omega) (fun k hk => by by_cases y : k = l; (subst y; exact d); exact he k (by omega)) _ _ _ _ _

set_option maxRecDepth 20000 in
set_option maxHeartbeats 4000000 in
theorem y8 {LS : Nat} {rm : Nat → Nat → Option Nat} {im : Nat → Nat → Int32} {P : Option Value → (Nat → Nat → Int32) → Prop} {a1 a2 : Int32} {c : Nat} {n : Nat → Nat} (hO : isMo LS rm) (hc : im 371 36 = nI c) (hc2 : c ≤ 40) (hn : ∀ o, o < 3 → im 400 o = nI (n o) ∧ n o ≤ 40) (hg : ∀ o, o < 3 → ∀ i, i < n o → isN (im 399 (40 * o + i)) 60) (h1 : ∀ a b, a < 3 → b < 3 → a1 = nI a → a2 = nI b → im 371 34 = nI a → a ≠ b → im 397 b = 0 → ∀ l, l ≤ n a → l ≤ n b → (∀ k, k < l → im 399 (40 * a + k) = im 399 (40 * b + k)) → (l < n a → l < n b → im 399 (40 * a + l) ≠ im 399 (40 * b + l)) → ∀ N, N ≤ n a → (N = 0 ∨ arQ (cq2 im a b l (l < n a)) (cpn n b l (l < n a)) a N) → (∀ c, N < c → c ≤ n a → ¬ arQ (cq2 im a b l (l < n a)) (cpn n b l (l < n a)) a c) → P (some (.int (if l < n a then 1 else 0))) (cq3 (cq2 im a b l (l < n a)) a c N)) (h0 : (∀ a b, ¬ (a < 3 ∧ b < 3 ∧ a1 = nI a ∧ a2 = nI b ∧ im 371 34 = nI a ∧ a ≠ b ∧ im 397 b = 0)) → P (some (.int (-1))) im) : Gm LS rm 111 0 (en_in 111 [.ref 371, .int a1, .int a2]) [] im P := by
  show Gm LS rm 111 0 [.ref (371), .int (a1), .int (a2), .long 0, .long 0, .long 0, .long 0, .long 0, .long 0] [] im P
  refine g_aload_n k111_0 rfl ?_
  refine g_iload_n k111_1 rfl ?_
  refine g_inv1 k111_2 (sM371) rfl (by decide) (Nat.le_of_ble_eq_true rfl) (c106 (fun a ha e => ?_) (fun h => ?_))
  · subst e
    refine g_if_eq k111_5 (fun h9 => absurd h9 (by decide)) (fun _ => ?_)
    refine g_aload_n k111_8 rfl ?_
    refine g_iload_n k111_9 rfl ?_
    refine g_inv1 k111_10 (sM371) rfl (by decide) (Nat.le_of_ble_eq_true rfl) (c106 (fun b hb e => ?_) (fun h => ?_))
    · subst e
      refine g_if_eq k111_13 (fun h9 => absurd h9 (by decide)) (fun _ => ?_)
      refine g_iload_n k111_16 rfl ?_
      refine g_iload_n k111_17 rfl ?_
      refine g_icmp_eq k111_18 (fun g => ?_) (fun g => ?_)
      · have zz : a = b := nI_inj g (by omega) (by omega)
        refine g_iconst (v := -1) k111_38 ic_m1 ?_
        exact g_reti k111_39 rfl (h0 (fun x y k2 => by obtain ⟨q1, q2, q3, q4, q5, q6, q7⟩ := k2; have z1 := nI_inj q3 (by omega) (by omega); have z2 := nI_inj q4 (by omega) (by omega); subst z1; subst z2; exact q6 zz))
      · have hab : a ≠ b := fun z => g (by rw [z])
        refine g_iload_n k111_21 rfl ?_
        refine g_aload_n k111_22 rfl ?_
        refine g_geti k111_23 (sM371) (by decide) ?_
        refine g_icmp_ne k111_26 (fun d => ?_) (fun d => ?_)
        · refine g_iconst (v := -1) k111_38 ic_m1 ?_
          exact g_reti k111_39 rfl (h0 (fun x y k2 => by obtain ⟨q1, q2, q3, q4, q5, q6, q7⟩ := k2; have z1 := nI_inj q3 (by omega) (by omega); have z2 := nI_inj q4 (by omega) (by omega); subst z1; subst z2; exact d q5.symm))
        · refine g_aload_n k111_29 rfl ?_
          refine g_getr k111_30 (sM371) (by decide) (mo_off hO) ?_
          refine g_iload_n k111_33 rfl ?_
          refine g_zalv k111_34 (sM397) (hb) (by decide) (rfl) ?_
          refine g_if_eq k111_35 (fun f => ?_) (fun f => ?_)
          · refine g_iconst (v := 0) k111_40 ic_0 ?_
            refine g_istore_n k111_41 (by decide) rfl ?_
            exact l111w hO ha hb hab hc hc2 hn hg (h1 a b ha hb rfl rfl d.symm hab f) (n a) 0 (by omega) (by omega) (fun k hk => absurd hk (by omega)) _ _ _ _ _
          · refine g_iconst (v := -1) k111_38 ic_m1 ?_
            exact g_reti k111_39 rfl (h0 (fun x y k2 => by obtain ⟨q1, q2, q3, q4, q5, q6, q7⟩ := k2; have z1 := nI_inj q3 (by omega) (by omega); have z2 := nI_inj q4 (by omega) (by omega); subst z1; subst z2; exact f q7))
    · refine g_if_eq k111_13 (fun _ => ?_) (fun h9 => absurd (by decide) h9)
      refine g_iconst (v := -1) k111_38 ic_m1 ?_
      exact g_reti k111_39 rfl (h0 (fun x y k2 => w_out (by decide) k2.2.1 h k2.2.2.2.1))
  · refine g_if_eq k111_5 (fun _ => ?_) (fun h9 => absurd (by decide) h9)
    refine g_iconst (v := -1) k111_38 ic_m1 ?_
    exact g_reti k111_39 rfl (h0 (fun x y k2 => w_out (by decide) k2.1 h k2.2.2.1))

