section PAIRI
variable {LS : Nat} {rm : Nat → Nat → Option Nat} {K : Nat} {im : Nat → Nat → Int32}

theorem i32_oa (a b c : Int32) : (a ||| b) &&& c = (a &&& c) ||| (b &&& c) := by
  apply Int32.toBitVec_inj.mp
  rw [Int32.toBitVec_and, Int32.toBitVec_or, Int32.toBitVec_or, Int32.toBitVec_and, Int32.toBitVec_and]
  ext i
  simp [Bool.and_or_distrib_right]
theorem bit_1 : ∀ i, i < 16 → ∀ e, e < 16 → ((1 : Int32) <<< (nI i &&& 31)) >>> (nI e &&& 31) &&& 1 = if e = i then 1 else 0 := by decide
theorem jn_bit {f : Nat → Int32} {s n k : Nat} : ∀ i, i ≤ 16 → ∀ e, e < 16 → bitN (jnN f s n k i) e = if e < i ∧ k ≤ cmN f (nI e) s n then 1 else 0 := by
  intro i
  induction i with
  | zero =>
    intro _ e he
    rw [if_neg (by omega)]
    show bitN 0 e = 0
    have : ∀ e, e < 16 → bitN 0 e = 0 := by decide
    exact this e he
  | succ i ih =>
    intro hi e he
    have h0 := ih (by omega) e he
    show bitN (if k ≤ cmN f (nI i) s n then jnN f s n k i ||| ((1 : Int32) <<< ((nI i) &&& 31)) else jnN f s n k i) e = _
    by_cases z : k ≤ cmN f (nI i) s n
    · rw [if_pos z]
      have h1 : bitN (jnN f s n k i ||| ((1 : Int32) <<< ((nI i) &&& 31))) e = bitN (jnN f s n k i) e ||| (if e = i then 1 else 0) := by
        unfold bitN
        rw [Int32.shiftRight_or, i32_oa, bit_1 i (by omega) e he]
      rw [h1, h0]
      by_cases w : e = i
      · subst w
        rw [if_neg (by omega), if_pos rfl, if_pos ⟨by omega, z⟩]
        decide
      · rw [if_neg w]
        by_cases y : e < i ∧ k ≤ cmN f (nI e) s n
        · rw [if_pos y, if_pos ⟨by omega, y.2⟩]; decide
        · rw [if_neg y, if_neg (fun q => y ⟨by omega, q.2⟩)]; decide
    · rw [if_neg z, h0]
      by_cases w : e = i
      · subst w
        rw [if_neg (by omega), if_neg (fun q => z q.2)]
      · by_cases y : e < i ∧ k ≤ cmN f (nI e) s n
        · rw [if_pos y, if_pos ⟨by omega, y.2⟩]
        · rw [if_neg y, if_neg (fun q => y ⟨by omega, q.2⟩)]
theorem lf_bit : ∀ q, q < 4 → ∀ e, e < 16 → bitN (lfN q 16) e = flV (nI e) (nI q) 0 0 := by decide
theorem flC_c {F F' : Nat → Int32} {pt pt' : Nat → Nat} : ∀ n, (∀ q, q < n → F (pt q) = F' (pt' q)) → flC F pt n = flC F' pt' n := by
  intro n
  induction n with
  | zero => intro _; rfl
  | succ n ih => intro h; show flC F pt n + (if F (pt n) = 0 then 0 else 1) = flC F' pt' n + (if F' (pt' n) = 0 then 0 else 1); rw [ih (fun q hq => h q (by omega)), h n (by omega)]
theorem flF_c {e : Int32} {k k' : Nat → Int32} {nn nn' : Nat → Nat} {pt pt' : Nat → Nat → Nat} {F0 : Nat → Int32} : ∀ n, (∀ i, i < n → k i = k' i ∧ nn i = nn' i ∧ ∀ q, q < nn' i → pt i q = pt' i q) → flF e k nn pt F0 n = flF e k' nn' pt' F0 n := by
  intro n
  induction n with
  | zero => intro _; rfl
  | succ n ih =>
    intro h
    obtain ⟨h1, h2, h3⟩ := h n (by omega)
    have ih := ih (fun i hi => h i (by omega))
    show (fun x => if x = n then flV e (k n) (nn n) (flC (flF e k nn pt F0 n) (pt n) (nn n)) else flF e k nn pt F0 n x) = (fun x => if x = n then flV e (k' n) (nn' n) (flC (flF e k' nn' pt' F0 n) (pt' n) (nn' n)) else flF e k' nn' pt' F0 n x)
    rw [ih, h1, h2, flC_c (nn' n) (fun q hq => by rw [h3 q hq])]
def iR1 (im : Nat → Nat → Int32) (p : Nat) : Prop := okR im p ∧ im (4 * p + 14) 4 = nI (rH im p) ∧ im (4 * p + 14) 5 = nI (rR im p) ∧ rH im p ≤ rR im p ∧ ∀ h, h < rH im p → im 379 (9 * p + h) = nI (9 * p + rX im p h) ∧ rX im p h < rR im p ∧ ∀ e, e < 16 → bitN (im (4 * p + 17) h) e = rV im p e (rX im p h)
theorem iR1_f {m : Nat → Nat → Int32} {p : Nat} (e1 : m 375 p = im 375 p) (e2 : m 380 p = im 380 p) (e3 : ∀ i, i < 9 → m 376 (9 * p + i) = im 376 (9 * p + i) ∧ m 377 (9 * p + i) = im 377 (9 * p + i) ∧ m 379 (9 * p + i) = im 379 (9 * p + i) ∧ ∀ q, q < 4 → m 378 (4 * (9 * p + i) + q) = im 378 (4 * (9 * p + i) + q)) (e4 : m (4 * p + 14) 4 = im (4 * p + 14) 4) (e5 : m (4 * p + 14) 5 = im (4 * p + 14) 5) (e6 : m (4 * p + 17) = im (4 * p + 17)) (hi : iR1 im p) : iR1 m p := by
  obtain ⟨⟨a1, a2, a3, a4, a5, a6⟩, b1, b2, b3, b4⟩ := hi
  have r1 : rR m p = rR im p := by unfold rR; rw [e1]
  have r2 : rH m p = rH im p := by unfold rH; rw [e2]
  have r3 : ∀ i, i < 9 → rK m p i = rK im p i := fun i hi => (e3 i hi).1
  have r4 : ∀ i, i < 9 → rN m p i = rN im p i := fun i hi => by unfold rN; rw [(e3 i hi).2.1]
  have r5 : ∀ i, i < 9 → ∀ q, q < 4 → rP m p i q = rP im p i q := fun i hi q hq => by unfold rP; rw [(e3 i hi).2.2.2 q hq]
  have r6 : ∀ i, i < 9 → rX m p i = rX im p i := fun i hi => by unfold rX; rw [(e3 i hi).2.2.1]
  have r7 : ∀ e i, rV m p e i = rV im p e i := fun e i => by
    unfold rV
    rw [r1, flF_c (rR im p) (fun i hi => ⟨r3 i (by omega), r4 i (by omega), fun q hq => r5 i (by omega) q (by have := (a5 i hi).2.1; omega)⟩)]
  refine ⟨⟨?_, ?_, ?_, ?_, fun i hi => ?_, fun hh => ?_⟩, ?_, ?_, ?_, fun h hh => ?_⟩
  · rw [e1, r1]; exact a1
  · rw [r1]; exact a2
  · rw [e2, r2]; exact a3
  · rw [r2]; exact a4
  · rw [r1] at hi
    rw [(e3 i (by omega)).2.1, r4 i (by omega)]
    obtain ⟨c1, c2, c3⟩ := a5 i hi
    refine ⟨c1, c2, fun q hq => ?_⟩
    rw [(e3 i (by omega)).2.2.2 q (by omega), r5 i (by omega) q (by omega)]
    exact c3 q hq
  · rw [r2] at hh
    have : rT m p = rT im p := by unfold rT; rw [r2, (e3 _ (by omega)).2.2.1]
    rw [r2, this, r1, (e3 _ (by omega)).2.2.1]
    exact a6 hh
  · rw [e4, r2]; exact b1
  · rw [e5, r1]; exact b2
  · rw [r1, r2]; exact b3
  · rw [r2] at hh
    rw [(e3 h (by omega)).2.2.1, r6 h (by omega), r1, e6]
    obtain ⟨c1, c2, c3⟩ := b4 h hh
    exact ⟨c1, c2, fun e he => by rw [r7]; exact c3 e he⟩
theorem iR1_n {m : Nat → Nat → Int32} {p r h n : Nat} {a : Int32} (hp : p < 4) (hr : rR im p = r) (hh : rH im p = h) (hr9 : r < 9) (hn4 : n ≤ 4) (hnh : n ≤ h) (e1 : m 375 p = nI (r + 1)) (e2 : m 380 p = nI (h - n + 1)) (e3 : ∀ i, i < r → m 376 (9 * p + i) = im 376 (9 * p + i) ∧ m 377 (9 * p + i) = im 377 (9 * p + i) ∧ ∀ q, q < 4 → m 378 (4 * (9 * p + i) + q) = im 378 (4 * (9 * p + i) + q)) (e4 : m 376 (9 * p + r) = a) (e5 : m 377 (9 * p + r) = nI n) (e6 : ∀ q, q < n → m 378 (4 * (9 * p + r) + q) = im 379 (9 * p + (h - 1 - q))) (e7 : ∀ x, x < h - n → m 379 (9 * p + x) = im 379 (9 * p + x)) (e8 : m 379 (9 * p + (h - n)) = nI (9 * p + r)) (e9 : m (4 * p + 14) 4 = nI (h - n + 1)) (e10 : m (4 * p + 14) 5 = nI (r + 1)) (e11 : ∀ x, x < h - n → m (4 * p + 17) x = im (4 * p + 17) x) (e12 : ∀ e, e < 16 → bitN (m (4 * p + 17) (h - n)) e = flV (nI e) a n (flC (flF (nI e) (rK im p) (rN im p) (rP im p) (fun _ => 0) r) (fun q => rX im p (h - 1 - q)) n)) (hi : iR1 im p) : iR1 m p := by
  obtain ⟨⟨a1, a2, a3, a4, a5, a6⟩, b1, b2, b3, b4⟩ := hi
  rw [hr] at a1 a2 a5 a6 b2 b3
  rw [hh] at a3 a4 a6 b1 b3 b4
  have r1 : rR m p = r + 1 := by unfold rR; rw [e1, tn_nI (by omega)]
  have r2 : rH m p = h - n + 1 := by unfold rH; rw [e2, tn_nI (by omega)]
  have r3 : ∀ i, i < r → rK m p i = rK im p i := fun i hi => (e3 i hi).1
  have r4 : ∀ i, i < r → rN m p i = rN im p i := fun i hi => by unfold rN; rw [(e3 i hi).2.1]
  have r5 : ∀ i, i < r → ∀ q, q < 4 → rP m p i q = rP im p i q := fun i hi q hq => by unfold rP; rw [(e3 i hi).2.2 q hq]
  have r6 : ∀ x, x < h - n → rX m p x = rX im p x := fun x hx => by unfold rX; rw [e7 x hx]
  have r7 : rX m p (h - n) = r := by unfold rX; rw [e8, tn_nI (by omega)]; omega
  have r8 : ∀ q, q < n → rP m p r q = rX im p (h - 1 - q) := fun q hq => by unfold rP rX; rw [e6 q hq]
  have r9 : rN m p r = n := by unfold rN; rw [e5, tn_nI (by omega)]
  have r10 : rK m p r = a := e4
  have r11 : ∀ e i, rV m p e i = if i = r then flV (nI e) a n (flC (flF (nI e) (rK im p) (rN im p) (rP im p) (fun _ => 0) r) (fun q => rX im p (h - 1 - q)) n) else rV im p e i := fun e i => by
    have k : flF (nI e) (rK m p) (rN m p) (rP m p) (fun _ => 0) r = flF (nI e) (rK im p) (rN im p) (rP im p) (fun _ => 0) r := flF_c r (fun i hi => ⟨r3 i hi, r4 i hi, fun q hq => r5 i hi q (by have := (a5 i hi).2.1; omega)⟩)
    unfold rV
    rw [r1, hr]
    show (if i = r then flV (nI e) (rK m p r) (rN m p r) (flC (flF (nI e) (rK m p) (rN m p) (rP m p) (fun _ => 0) r) (rP m p r) (rN m p r)) else flF (nI e) (rK m p) (rN m p) (rP m p) (fun _ => 0) r i) = _
    rw [k, r9, r10, flC_c n (fun q hq => by rw [r8 q hq])]
  refine ⟨⟨?_, ?_, ?_, ?_, fun i hi => ?_, fun _ => ?_⟩, ?_, ?_, ?_, fun x hx => ?_⟩
  · rw [r1]; exact e1
  · rw [r1]; omega
  · rw [r2]; exact e2
  · rw [r2]; omega
  · rw [r1] at hi
    by_cases z : i = r
    · subst z
      rw [r9]
      refine ⟨e5, hn4, fun q hq => ?_⟩
      rw [e6 q hq, r8 q hq]
      have c := b4 (h - 1 - q) (by omega)
      rw [hr] at c
      exact ⟨c.1, c.2.1⟩
    · have hi : i < r := by omega
      rw [(e3 i hi).2.1, r4 i hi]
      obtain ⟨c1, c2, c3⟩ := a5 i hi
      refine ⟨c1, c2, fun q hq => ?_⟩
      rw [(e3 i hi).2.2 q (by omega), r5 i hi q (by omega)]
      exact c3 q hq
  · have : rT m p = r := by unfold rT; rw [r2, show h - n + 1 - 1 = h - n by omega, e8, tn_nI (by omega)]; omega
    rw [r2, this, r1, show h - n + 1 - 1 = h - n by omega]
    exact ⟨e8, by omega⟩
  · rw [r2]; exact e9
  · rw [r1]; exact e10
  · rw [r1, r2]; omega
  · rw [r2] at hx
    rw [r1]
    by_cases z : x = h - n
    · subst z
      rw [r7]
      refine ⟨e8, by omega, fun e he => ?_⟩
      rw [r11, if_pos rfl]
      exact e12 e he
    · have hx : x < h - n := by omega
      have c := b4 x (by omega)
      rw [hr] at c
      rw [e7 x hx, r6 x hx, e11 x hx]
      refine ⟨c.1, by omega, fun e he => ?_⟩
      rw [r11, if_neg (by omega)]
      exact c.2.2 e he
theorem pc_c {p r h n : Nat} {k : Int32} : (∀ x, pcR im p r h k n 375 x = if x = p then nI (r + 1) else im 375 x) ∧ (∀ x, pcR im p r h k n 376 x = if x = 9 * p + r then k else im 376 x) ∧ (∀ x, pcR im p r h k n 377 x = if x = 9 * p + r then nI n else im 377 x) ∧ (∀ x, pcR im p r h k n 378 x = pcP im p r h n x) ∧ (∀ x, pcR im p r h k n 379 x = if x = 9 * p + (h - n) then nI (9 * p + r) else im 379 x) ∧ (∀ x, pcR im p r h k n 380 x = if x = p then nI (h - n + 1) else im 380 x) ∧ ∀ c, c < 375 ∨ 380 < c → pcR im p r h k n c = im c := by
  refine ⟨fun x => ?_, fun x => ?_, fun x => ?_, fun x => ?_, fun x => ?_, fun x => ?_, fun c hc => ?_⟩
  · unfold pcR pcI pcA
    rw [u2_ne (by omega), u2_ne (by omega), u2_ne (by omega), ur_ne (by omega), u2_ne (by omega), u2_ne (by omega)]
    by_cases z : x = p
    · rw [if_pos z, z, u2_eq]
    · rw [if_neg z, u2_ne (by omega)]
  · unfold pcR pcI pcA
    rw [u2_ne (by omega), u2_ne (by omega), u2_ne (by omega), ur_ne (by omega), u2_ne (by omega)]
    by_cases z : x = 9 * p + r
    · rw [if_pos z, z, u2_eq]
    · rw [if_neg z, u2_ne (by omega), u2_ne (by omega)]
  · unfold pcR pcI pcA
    rw [u2_ne (by omega), u2_ne (by omega), u2_ne (by omega), ur_ne (by omega)]
    by_cases z : x = 9 * p + r
    · rw [if_pos z, z, u2_eq]
    · rw [if_neg z, u2_ne (by omega), u2_ne (by omega), u2_ne (by omega)]
  · unfold pcR pcI
    rw [u2_ne (by omega), u2_ne (by omega), u2_ne (by omega), ur_eq]
  · unfold pcR pcI pcA
    rw [u2_ne (by omega)]
    by_cases z : x = 9 * p + (h - n)
    · rw [if_pos z, z, u2_eq]
    · rw [if_neg z, u2_ne (by omega), u2_ne (by omega), ur_ne (by omega), u2_ne (by omega), u2_ne (by omega), u2_ne (by omega)]
  · unfold pcR pcI pcA
    by_cases z : x = p
    · rw [if_pos z, z, u2_eq]
    · rw [if_neg z, u2_ne (by omega), u2_ne (by omega), u2_ne (by omega), ur_ne (by omega), u2_ne (by omega), u2_ne (by omega), u2_ne (by omega)]
  · unfold pcR pcI pcA
    rw [en_u2_off (by omega), en_u2_off (by omega), en_u2_off (by omega), ur_ne (by omega), en_u2_off (by omega), en_u2_off (by omega), en_u2_off (by omega)]
/-- a new rule: class's memory m1, the reference's behind it *-/
theorem Inv_ru {M W C N ld : Nat} {cl : Nat → Bool} {sz c : Nat → Nat} {mb : Nat → Nat → Nat} {m1 : Nat → Nat → Int32} {p n : Nat} {a : Int32} (hM0 : M = 0) (h1 : iCt im M W C N ld) (h2 : iCd im) (h3 : iRu im) (h4 : iTx im M cl) (h5 : iWt im M W cl) (h6 : iBk im M C cl sz mb) (h7 : iCh im C N c) (h8 : iOr K im C N ld c) (h9 : iPe im N sz c) (hp : p < 4) (hr9 : rR im p < 9) (hn4 : n ≤ 4) (hnh : n ≤ rH im p) (q1 : ∀ c x, c ≠ 4 * p + 17 → (c ≠ 4 * p + 14 ∨ (x ≠ 4 ∧ x ≠ 5)) → m1 c x = im c x) (q2 : m1 (4 * p + 14) 4 = nI (rH im p - n + 1)) (q3 : m1 (4 * p + 14) 5 = nI (rR im p + 1)) (q4 : ∀ x, x < rH im p - n → m1 (4 * p + 17) x = im (4 * p + 17) x) (q5 : ∀ e, e < 16 → bitN (m1 (4 * p + 17) (rH im p - n)) e = flV (nI e) a n (flC (flF (nI e) (rK im p) (rN im p) (rP im p) (fun _ => 0) (rR im p)) (fun q => rX im p (rH im p - 1 - q)) n)) : Inv (K + 1) (pcR m1 p (rR im p) (rH im p) a n) := by
  have hM60 := h1.1.2.2
  have hC60 := h1.2.2.1.2.2
  have hW : W = 0 := by
    by_cases z : W = 0
    · exact z
    · exact absurd (h5 0 (by omega)).2.1.2 (by omega)
  have hC0 : C = 0 := by
    by_cases z : C = 0
    · exact z
    · have := (h6 0 (by omega)).2 0 (by have := (h6 0 (by omega)).1; omega)
      omega
  have hN0 : N = 0 := by
    by_cases z : N = 0
    · exact z
    · have := (h7 0 (by omega)).2.2
      omega
  have hS : chS im (pcR m1 p (rR im p) (rH im p) a n) N := fun b hb => absurd hb (by omega)
  obtain ⟨P1, P2, P3, P4, P5, P6, P7⟩ := pc_c (im := m1) (p := p) (r := rR im p) (h := rH im p) (n := n) (k := a)
  have F1 : ∀ c x, c < 375 ∨ 380 < c → c ≠ 4 * p + 17 → (c ≠ 4 * p + 14 ∨ (x ≠ 4 ∧ x ≠ 5)) → pcR m1 p (rR im p) (rH im p) a n c x = im c x := fun c x f1 f2 f3 => by rw [P7 c f1, q1 c x f2 f3]
  have Q : ∀ c x, 371 ≤ c → m1 c x = im c x := fun c x hc => q1 c x (by omega) (by omega)
  refine ⟨M, W, C, N, ld, cl, sz, c, mb, iCt_f (fun c x hx => by unfold xCt at hx; exact F1 c x (by omega) (by omega) (by omega)) h1, iCd_f (fun c x hx => by unfold xCd at hx; exact F1 c x (by omega) (by omega) (by omega)) h2, ?_, iTx_f (fun c x hx => by unfold xTx at hx; exact F1 c x (by omega) (by omega) (by omega)) h4, iWt_f (fun c x hx => by unfold xWt at hx; exact F1 c x (by omega) (by omega) (by omega)) h5, iBk_f hC60 (fun c x hx => by unfold xBk at hx; exact F1 c x (by omega) (by omega) (by omega)) h6, iCh_f (fun c x hx => by unfold xCh at hx; exact F1 c x (by omega) (by omega) (by omega)) h7, iOr_f hC60 (fun c x hx => by unfold xOr at hx; exact F1 c x (by omega) (by omega) (by omega)) (iOr_k h8), iPe_f (fun c x hx => by unfold xPe at hx; exact F1 c x (by omega) (by omega) (by omega)) hS h9⟩
  intro p' hp'
  have hR := h3 p' hp'
  by_cases z : p' = p
  · subst z
    have r9 := hR.1.2.1
    have h99 := hR.1.2.2.2.1
    refine iR1_n (im := im) (r := rR im p') (h := rH im p') (n := n) (a := a) hp rfl rfl hr9 hn4 hnh ?_ ?_ (fun i hi => ⟨?_, ?_, fun q hq => ?_⟩) ?_ ?_ (fun q hq => ?_) (fun x hx => ?_) ?_ ?_ ?_ (fun x hx => ?_) (fun e he => ?_) hR
    · rw [P1, if_pos rfl]
    · rw [P6, if_pos rfl]
    · rw [P2, if_neg (by omega)]; exact Q _ _ (by omega)
    · rw [P3, if_neg (by omega)]; exact Q _ _ (by omega)
    · rw [P4]; unfold pcP; rw [if_neg (by omega)]; exact Q _ _ (by omega)
    · rw [P2, if_pos rfl]
    · rw [P3, if_pos rfl]
    · rw [P4]; unfold pcP; rw [if_pos (by omega), show 4 * (9 * p' + rR im p') + q - 4 * (9 * p' + rR im p') = q by omega]; exact Q _ _ (by omega)
    · rw [P5, if_neg (by omega)]; exact Q _ _ (by omega)
    · rw [P5, if_pos rfl]
    · rw [P7 _ (by omega)]; exact q2
    · rw [P7 _ (by omega)]; exact q3
    · rw [P7 _ (by omega)]; exact q4 x hx
    · rw [P7 _ (by omega)]; exact q5 e he
  · refine iR1_f (im := im) ?_ ?_ (fun i hi => ⟨?_, ?_, ?_, fun q hq => ?_⟩) ?_ ?_ ?_ hR
    · rw [P1, if_neg z]; exact Q _ _ (by omega)
    · rw [P6, if_neg z]; exact Q _ _ (by omega)
    · rw [P2, if_neg (by omega)]; exact Q _ _ (by omega)
    · rw [P3, if_neg (by omega)]; exact Q _ _ (by omega)
    · have h99 := (h3 p hp).1.2.2.2.1
      have h93 := (h3 p hp).2.2.2.1
      rw [P5, if_neg (by omega)]; exact Q _ _ (by omega)
    · rw [P4]; unfold pcP; rw [if_neg (by omega)]; exact Q _ _ (by omega)
    · rw [P7 _ (by omega)]; exact q1 _ _ (by omega) (by omega)
    · rw [P7 _ (by omega)]; exact q1 _ _ (by omega) (by omega)
    · rw [P7 _ (by omega)]; funext x; exact q1 _ _ (by omega) (by omega)
theorem p_2 {a1 a2 a3 : Int32} (hM : isLd LS rm) (hO : isMo LS rm) (hI : Inv K im) : PX LS rm K im 2 89 [.int a1, .int a2, .int a3] := by
  have hI' := Inv_k hI
  obtain ⟨M, W, C, N, ld, cl, sz, c, mb, h1, h2, h3, h4, h5, h6, h7, h8, h9⟩ := hI
  obtain ⟨m1, m2, hM60⟩ := h1.1
  have hC60 := h1.2.2.1.2.2
  have hN40 := h1.2.2.2.1.2.2
  have hx : ∀ p, p < 4 → im (4 * p + 14) 4 = nI (rH im p) ∧ im (4 * p + 14) 5 = nI (rR im p) ∧ rH im p ≤ rR im p ∧ rR im p ≤ 9 := fun p hp => ⟨(h3 p hp).2.1, (h3 p hp).2.2.1, (h3 p hp).2.2.2.1, (h3 p hp).1.2.1⟩
  have hy : ∀ p, p < 4 → im 380 p = nI (rH im p) ∧ im 375 p = nI (rR im p) ∧ rH im p ≤ rR im p ∧ rR im p ≤ 9 := fun p hp => ⟨(h3 p hp).1.2.2.1, (h3 p hp).1.1, (h3 p hp).2.2.2.1, (h3 p hp).1.2.1⟩
  refine x2 (m := M) (hh := rH im) (rr := rR im) hM m1 hM60 hx (fun p q hk => ⟨_, rfl, ?_⟩) (fun p k n hk => ⟨_, rfl, ?_⟩) (fun k1 k2 => ⟨_, rfl, y2 (m := M) (hh := rH im) (rr := rR im) hO m2 hM60 hy (fun p q hk => absurd hk (k1 p q)) (fun p k n hk => absurd hk (k2 p k n)) (fun _ _ => ⟨rfl, hI'⟩)⟩)
  · have hkk := hk
    obtain ⟨hp, hq, ea, eb, ec, hm0, hr9⟩ := hk
    refine y2 (m := M) (hh := rH im) (rr := rR im) hO (by rw [u2_ne (by omega), u2_ne (by omega), u2_ne (by omega)]; exact m2) hM60 (fun r hr => by rw [u2_ne (by omega), u2_ne (by omega), u2_ne (by omega), u2_ne (by omega), u2_ne (by omega), u2_ne (by omega)]; exact hy r hr) (fun p' q' hk' => ⟨rfl, ?_⟩) (fun p' k' n' hk' => ?_) (fun h _ => absurd hkk (h p q))
    · have z1 := nI_inj (hk'.2.2.1.symm.trans ea) (by have := hk'.1; omega) (by omega)
      have z2 := nI_inj (hk'.2.2.2.1.symm.trans eb) (by have := hk'.2.1; omega) (by omega)
      subst z1
      subst z2
      clear hk' hkk
      refine Inv_ru hm0 h1 h2 h3 h4 h5 h6 h7 h8 h9 hp hr9 (by omega) (by omega) (fun c x f1 f2 => by rw [u2_ne (by omega), u2_ne (by omega), u2_ne (by omega)]) (by rw [u2_ne (by omega), u2_eq, Nat.sub_zero]) (by rw [u2_eq]) (fun x hx => by rw [u2_ne (by omega), u2_ne (by omega), u2_ne (by omega)]) (fun e he => ?_)
      rw [u2_ne (by omega), u2_ne (by omega), Nat.sub_zero, u2_eq, lf_bit q' hq e he, eb]
      rfl
    · obtain ⟨-, -, -, k4, k5, k6, -⟩ := hk'
      have := nI_inj (a := n') (b := 0) (k6.symm.trans ec) (by omega) (by omega)
      omega
  · have hkk := hk
    obtain ⟨hp, ea, hm0, hn2, hn4, ec, hk1, hk2, eb, hr9, hnh⟩ := hk
    refine y2 (m := M) (hh := rH im) (rr := rR im) hO (by rw [u2_ne (by omega), u2_ne (by omega), u2_ne (by omega), u2_ne (by omega)]; exact m2) hM60 (fun r hr => by rw [u2_ne (by omega), u2_ne (by omega), u2_ne (by omega), u2_ne (by omega), u2_ne (by omega), u2_ne (by omega), u2_ne (by omega), u2_ne (by omega)]; exact hy r hr) (fun p' q' hk' => ?_) (fun p' k' n' hk' => ⟨rfl, ?_⟩) (fun _ h => absurd hkk (h p k n))
    · have := nI_inj (a := n) (b := 0) (ec.symm.trans hk'.2.2.2.2.1) (by omega) (by omega)
      omega
    · have z1 := nI_inj (hk'.2.1.symm.trans ea) (by have := hk'.1; omega) (by omega)
      have z2 := nI_inj (hk'.2.2.2.2.2.1.symm.trans ec) (by have := hk'.2.2.2.2.1; omega) (by omega)
      subst z1
      subst z2
      clear hk' hkk
      have h3p := h3 p' hp
      refine Inv_ru hm0 h1 h2 h3 h4 h5 h6 h7 h8 h9 hp hr9 hn4 hnh (fun c x f1 f2 => by rw [u2_ne (by omega), u2_ne (by omega), u2_ne (by omega), u2_ne (by omega)]) (by rw [u2_ne (by omega), u2_eq]) (by rw [u2_eq]) (fun x hx => by rw [u2_ne (by omega), u2_ne (by omega), u2_ne (by omega), u2_ne (by omega)]) (fun e he => ?_)
      have hw : ∀ j, j < rH im p' → (if flF (nI e) (rK im p') (rN im p') (rP im p') (fun _ => 0) (rR im p') (rX im p' j) = 0 then 0 else 1) = (if (im (4 * p' + 17) j >>> (nI e &&& 31)) &&& 1 = 1 then 1 else 0) := fun j hj => by
        have c := (h3p.2.2.2.2 j hj).2.2 e he
        have b := bit_b (im (4 * p' + 17) j) e
        show (if rV im p' e (rX im p' j) = 0 then 0 else 1) = (if bitN (im (4 * p' + 17) j) e = 1 then 1 else 0)
        rw [← c]
        rcases b with w | w
        · rw [w]; decide
        · rw [w]; decide
      have cnt : flC (flF (nI e) (rK im p') (rN im p') (rP im p') (fun _ => 0) (rR im p')) (fun q => rX im p' (rH im p' - 1 - q)) n' = cmN (im (4 * p' + 17)) (nI e) (rH im p' - n') n' := by
        rcases (show n' = 2 ∨ n' = 3 ∨ n' = 4 by omega) with rfl | rfl | rfl
        · simp only [flC, cmN]
          rw [hw _ (by omega), hw _ (by omega), show rH im p' - 1 - 0 = rH im p' - 2 + 1 by omega, show rH im p' - 1 - 1 = rH im p' - 2 + 0 by omega]
          omega
        · simp only [flC, cmN]
          rw [hw _ (by omega), hw _ (by omega), hw _ (by omega), show rH im p' - 1 - 0 = rH im p' - 3 + 2 by omega, show rH im p' - 1 - 1 = rH im p' - 3 + 1 by omega, show rH im p' - 1 - 2 = rH im p' - 3 + 0 by omega]
          omega
        · simp only [flC, cmN]
          rw [hw _ (by omega), hw _ (by omega), hw _ (by omega), hw _ (by omega), show rH im p' - 1 - 0 = rH im p' - 4 + 3 by omega, show rH im p' - 1 - 1 = rH im p' - 4 + 2 by omega, show rH im p' - 1 - 2 = rH im p' - 4 + 1 by omega, show rH im p' - 1 - 3 = rH im p' - 4 + 0 by omega]
          omega
      have c4 := cmN_le (im (4 * p' + 17)) (nI e) (rH im p' - n') n'
      rw [u2_ne (by omega), u2_ne (by omega), u2_eq, jn_bit 16 (by omega) e he, cnt, eb]
      have fv : ∀ x : Nat, flV (nI e) (nI k) n' x = if nI x < nI k then 0 else 1 := fun x => if_neg (by omega)
      rw [fv]
      by_cases w : k ≤ cmN (im (4 * p' + 17)) (nI e) (rH im p' - n') n'
      · rw [if_pos ⟨he, w⟩, if_neg (nI_ge2 w (by omega))]
      · rw [if_neg (fun z => w z.2), if_pos (nI_lt (by omega) (by omega))]
end PAIRI
