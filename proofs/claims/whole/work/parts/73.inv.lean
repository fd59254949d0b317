/-! part 6: applying a block is a step of the fold *-/
theorem ws_v_eq {im : Nat → Nat → Int32} {t r : Nat} {cc f g : Nat → Int32} {v : Int32} (h : resR im t cc r) (hf : ∀ k, k < 16 → f k = g k) {k : Nat} (hk : k < 16) : ws_v cc v 16 f k = wV im t v 16 g k := by
  obtain ⟨-, -, h3, h4, -⟩ := h
  unfold ws_v wV
  rw [(h4 k hk).2.1, hf k hk]
  rcases (h3 k hk).2 with e | e | e
  · rw [e]; simp
  · rw [e]; simp [hk, show ¬ (1 : Int32) = 2 from by decide]
  · rw [e.1]; simp [hk, show ¬ (2 : Int32) = 1 from by decide]
theorem ws_w_eq {im : Nat → Nat → Int32} {t r : Nat} {cc f g : Nat → Int32} (h : resR im t cc r) (hf : ∀ k, k < 16 → f k = g k) {k : Nat} (hk : k < 16) : ws_w cc 16 f k = wW im t 16 g k := by
  obtain ⟨-, -, h3, h4, -⟩ := h
  unfold ws_w wW
  rw [(h4 k hk).2.1, (h4 k hk).2.2, hf k hk]
  rcases (h3 k hk).2 with e | e | e
  · rw [e]; simp
  · rw [e]; simp [hk]
  · rw [e.1, e.2]; simp [hk, show ¬ (2 : Int32) = 1 from by decide]
theorem ap_eq {im q : Nat → Nat → Int32} {M C N : Nat} {cl : Nat → Bool} {sz c : Nat → Nat} {mb : Nat → Nat → Nat} (hM : M ≤ 60) (hC : C ≤ 60) (hB : iBk im M C cl sz mb) (hc : iCh im C N c) (hT : iTx im M cl) (hR : iRu im) {p b : Nat} (hq : ∀ c, c < 339 → q c = im c) (hb : b < N) (hv : ∀ k, k < 16 → q (8 * p + 341) k = (FS im b).1 k) (hw : ∀ k, k < 16 → q (8 * p + 342) k = (FS im b).2.1 k) : ∀ i, i ≤ sz (c b) → (∀ k, k < 16 → (apS p b q i).1 (8 * p + 341) k = (gBk im b (FS im b) i).1 k) ∧ (∀ k, k < 16 → (apS p b q i).1 (8 * p + 342) k = (gBk im b (FS im b) i).2.1 k) ∧ (∀ j, j < i → (apS p b q i).1 (8 * p + 346) (4 * b + j) = (gBk im b (FS im b) i).2.2.2 j) ∧ (∀ x, x < 4 * b ∨ 4 * b + i ≤ x → (apS p b q i).1 (8 * p + 346) x = q (8 * p + 346) x) ∧ (apS p b q i).2 = vcN (gBk im b (FS im b) i).2.2.2 i := by
  intro i
  induction i with
  | zero => intro _; exact ⟨hv, hw, fun j hj => absurd hj (by omega), fun x _ => rfl, rfl⟩
  | succ i ih =>
    intro hi
    obtain ⟨h1, h2, h3, h4, h5⟩ := ih (by omega)
    have hcb := (hc b hb).2.2
    have hi' : i < sz (c b) := by omega
    obtain ⟨g1, g2, g3, g4⟩ := (hB (c b) hcb).2 i hi'
    have ht : mb (c b) i < 60 := by omega
    obtain ⟨-, -, -, -, i6, -, i8⟩ := hT _ ht
    obtain ⟨r, r1, r2⟩ := i8 (i6 g4)
    have off : ∀ c, c < 339 → (apS p b q i).1 c = im c := fun c hc => (apS_off (by omega) (by omega) (by omega) i).trans (hq c hc)
    have hj := jdg_eq hM hC hB hc hT hR (q := (apS p b q i).1) (p := p) off hb hi' h1
    have em : mbv q (chv q b) i = mb (c b) i := by
      unfold mbv chv
      rw [hq 8 (by decide), (hc b hb).1, tn_nI (by omega), hq _ (by omega), g1, tn_nI (by omega)]
    have eg : gT im b i = mb (c b) i := gT_v hM hC hB hc hb hi'
    have hcells : (apS p b q i).1 (3 * mb (c b) i + 32) = im (3 * mb (c b) i + 32) := off _ (by omega)
    have fl : ∀ s : gS, (gTx im b i s).2.2.2 = upd s.2.2.2 i (gFlag im s.1 s.2.2.1 (gT im b i)) := fun _ => rfl
    have vc : ∀ (f : Nat → Int32) (v : Int32), vcN (upd f i v) (i + 1) = vcN f i + (if v = 0 then 1 else 0) := by
      intro f v
      show vcN (upd f i v) i + (if upd f i v i = 0 then 1 else 0) = _
      rw [upd_e]
      congr 1
      have : ∀ n, n ≤ i → vcN (upd f i v) n = vcN f n := by
        intro n
        induction n with
        | zero => intro _; rfl
        | succ n ihn => intro hn; show vcN (upd f i v) n + (if upd f i v n = 0 then 1 else 0) = vcN f n + (if f n = 0 then 1 else 0); rw [ihn (by omega), upd_n (by omega)]
      exact this i (Nat.le_refl _)
    show (∀ k, k < 16 → (apS p b q (i + 1)).1 (8 * p + 341) k = (gTx im b i (gBk im b (FS im b) i)).1 k) ∧ (∀ k, k < 16 → (apS p b q (i + 1)).1 (8 * p + 342) k = (gTx im b i (gBk im b (FS im b) i)).2.1 k) ∧ (∀ j, j < i + 1 → (apS p b q (i + 1)).1 (8 * p + 346) (4 * b + j) = (gTx im b i (gBk im b (FS im b) i)).2.2.2 j) ∧ (∀ x, x < 4 * b ∨ 4 * b + (i + 1) ≤ x → (apS p b q (i + 1)).1 (8 * p + 346) x = q (8 * p + 346) x) ∧ (apS p b q (i + 1)).2 = vcN (gTx im b i (gBk im b (FS im b) i)).2.2.2 (i + 1)
    rw [fl, vc]
    unfold gTx
    simp only [apS]
    rw [em, hj, eg]
    by_cases z : gFlag im (gBk im b (FS im b) i).1 (gBk im b (FS im b) i).2.2.1 (mb (c b) i) = 0
    · rw [if_pos z, if_pos z, if_pos z, if_pos z, z]
      unfold apW
      simp only []
      refine ⟨fun k hk => ?_, fun k hk => ?_, fun j hj => ?_, fun x hx => ?_, by rw [h5]⟩
      · rw [ur_ne (by omega), ur_eq, en_u2_off (by omega), en_u2_off (by omega), hcells]
        exact ws_v_eq r2 h1 hk
      · rw [ur_eq, en_u2_off (by omega), en_u2_off (by omega), hcells]
        exact ws_w_eq r2 h2 hk
      · rw [ur_ne (by omega), ur_ne (by omega)]
        by_cases w : j = i
        · subst w; rw [u2_eq, upd_e]
        · rw [u2_ne (by omega), upd_n w]; exact h3 j (by omega)
      · rw [ur_ne (by omega), ur_ne (by omega), u2_ne (by omega)]; exact h4 x (by omega)
    · rw [if_neg z, if_neg z, if_neg z, if_neg z]
      simp only []
      refine ⟨fun k hk => ?_, fun k hk => ?_, fun j hj => ?_, fun x hx => ?_, by rw [h5]; rfl⟩
      · rw [en_u2_off (by omega)]; exact h1 k hk
      · rw [en_u2_off (by omega)]; exact h2 k hk
      · by_cases w : j = i
        · subst w; rw [u2_eq, upd_e]
        · rw [u2_ne (by omega), upd_n w]; exact h3 j (by omega)
      · rw [u2_ne (by omega)]; exact h4 x (by omega)
/-- a peer's cells, at the memory q, when h blocks are applied and sv are saved *-/
def PS (im q : Nat → Nat → Int32) (sz c : Nat → Nat) (p h sv : Nat) : Prop := (∀ k, k < 16 → q (8 * p + 341) k = (FS im h).1 k ∧ q (8 * p + 342) k = (FS im h).2.1 k) ∧ (q (8 * p + 343) 2 = nI sv ∧ ∀ k, k < 16 → q (8 * p + 344) k = (FS im sv).1 k ∧ q (8 * p + 345) k = (FS im sv).2.1 k) ∧ ∀ b, b < h → ∀ j, j < sz (c b) → q (8 * p + 346) (4 * b + j) = (FS im (b + 1)).2.2.2 j
theorem cpy_16 {f g : Nat → Int32} {k : Nat} (hk : k < 16) : va_cpy f g 0 0 16 k = f k := by
  rw [pk_cpy_in (by omega) (by omega), show 0 + (k - 0) = k by omega]
theorem PS_ap {im q : Nat → Nat → Int32} {M C N : Nat} {cl : Nat → Bool} {sz c : Nat → Nat} {mb : Nat → Nat → Nat} (hM : M ≤ 60) (hC : C ≤ 60) (hB : iBk im M C cl sz mb) (hc : iCh im C N c) (hT : iTx im M cl) (hR : iRu im) {p b sv : Nat} (hq : ∀ c, c < 339 → q c = im c) (hb : b < N) (h : PS im q sz c p b sv) : PS im (apN p b q) sz c p (b + 1) (if (b + 1) % 4 = 0 then b + 1 else sv) ∧ (apS p b q (szv q (chv q b))).2 = vcN (FS im (b + 1)).2.2.2 (sz (c b)) ∧ apN p b q (8 * p + 340) 2 = nI (b + 1) := by
  obtain ⟨h1, ⟨h2, h3⟩, h4⟩ := h
  have hcb := (hc b hb).2.2
  have hs := (hB (c b) hcb).1
  have es : szv q (chv q b) = sz (c b) := by
    unfold szv chv
    rw [hq 8 (by decide), (hc b hb).1, tn_nI (by omega), hq _ (by omega), hs.1, tn_nI (by omega)]
  have ef : FS im (b + 1) = gBk im b (FS im b) (sz (c b)) := by
    show gBk im b (FS im b) (tn (im 395 (tn (im 401 b)))) = _
    rw [(ch_v hC hc hb).1, (bk_v hM hB hcb).1]
  obtain ⟨a1, a2, a3, a4, a5⟩ := ap_eq hM hC hB hc hT hR hq hb (fun k hk => (h1 k hk).1) (fun k hk => (h1 k hk).2) (sz (c b)) (Nat.le_refl _)
  rw [es, ef]
  refine ⟨?_, a5, by unfold apN; exact apF_h⟩
  unfold apN
  rw [es]
  have off : ∀ a, a = 8 * p + 343 ∨ a = 8 * p + 344 ∨ a = 8 * p + 345 → (apS p b q (sz (c b))).1 a = q a := fun a ha => apS_off (by omega) (by omega) (by omega) _
  have hfl : ∀ b', b' < b + 1 → ∀ j, j < sz (c b') → (apS p b q (sz (c b))).1 (8 * p + 346) (4 * b' + j) = (FS im (b' + 1)).2.2.2 j := by
    intro b' hb' j hj
    by_cases w : b' = b
    · subst w; rw [ef]; exact a3 j hj
    · have hs' := (hB (c b') (hc b' (by omega)).2.2).1
      rw [a4 _ (by omega)]
      exact h4 b' (by omega) j hj
  rw [← ef] at a1 a2
  unfold apF
  by_cases z : (b + 1) % 4 = 0
  · rw [if_pos z, if_pos z]
    refine ⟨fun k hk => ?_, ⟨u2_eq, fun k hk => ?_⟩, fun b' hb' j hj => ?_⟩
    · rw [en_u2_off (by omega), ur_ne (by omega), ur_ne (by omega), en_u2_off (by omega), en_u2_off (by omega), ur_ne (by omega), ur_ne (by omega), en_u2_off (by omega)]
      exact ⟨a1 k hk, a2 k hk⟩
    · rw [en_u2_off (by omega), ur_ne (by omega), ur_eq, en_u2_off (by omega), ur_eq, cpy_16 hk, cpy_16 hk]
      exact ⟨a1 k hk, a2 k hk⟩
    · rw [en_u2_off (by omega), ur_ne (by omega), ur_ne (by omega), en_u2_off (by omega)]
      exact hfl b' hb' j hj
  · rw [if_neg z, if_neg z]
    refine ⟨fun k hk => ?_, ⟨by rw [en_u2_off (by omega), off _ (by omega)]; exact h2, fun k hk => ?_⟩, fun b' hb' j hj => ?_⟩
    · rw [en_u2_off (by omega), en_u2_off (by omega)]
      exact ⟨a1 k hk, a2 k hk⟩
    · rw [en_u2_off (by omega), en_u2_off (by omega), off _ (by omega), off _ (by omega)]
      exact h3 k hk
    · rw [en_u2_off (by omega)]
      exact hfl b' hb' j hj
theorem PS_cb {im q : Nat → Nat → Int32} {M C N : Nat} {cl : Nat → Bool} {sz c : Nat → Nat} {mb : Nat → Nat → Nat} (hM : M ≤ 60) (hC : C ≤ 60) (hB : iBk im M C cl sz mb) (hc : iCh im C N c) (hT : iTx im M cl) (hR : iRu im) {p v : Nat} (hq : ∀ c, c < 339 → q c = im c) (hv4 : v % 4 = 0) (h2 : q (8 * p + 343) 2 = nI v) (h3 : ∀ k, k < 16 → q (8 * p + 344) k = (FS im v).1 k ∧ q (8 * p + 345) k = (FS im v).2.1 k) (h4 : ∀ b, b < v → ∀ j, j < sz (c b) → q (8 * p + 346) (4 * b + j) = (FS im (b + 1)).2.2.2 j) : ∀ i, v + i ≤ N → PS im (cbN p v q i) sz c p (v + i) ((v + i) / 4 * 4) := by
  intro i
  induction i with
  | zero =>
    intro _
    rw [show (v + 0) / 4 * 4 = v by omega]
    show PS im (cb0 p q) sz c p v v
    unfold cb0
    refine ⟨fun k hk => ?_, ⟨by rw [en_u2_off (by omega), ur_ne (by omega), ur_ne (by omega)]; exact h2, fun k hk => ?_⟩, fun b hb j hj => ?_⟩
    · rw [en_u2_off (by omega), ur_ne (by omega), ur_eq, en_u2_off (by omega), ur_eq, cpy_16 hk, cpy_16 hk]
      exact h3 k hk
    · rw [en_u2_off (by omega), ur_ne (by omega), ur_ne (by omega), en_u2_off (by omega), ur_ne (by omega), ur_ne (by omega)]
      exact h3 k hk
    · rw [en_u2_off (by omega), ur_ne (by omega), ur_ne (by omega)]
      exact h4 b hb j hj
  | succ i ih =>
    intro hi
    have := (PS_ap hM hC hB hc hT hR (q := cbN p v q i) (p := p) (b := v + i) (fun c hc => (cbN_lt (by omega) i).trans (hq c hc)) (by omega) (ih (by omega))).1
    show PS im (apN p (v + i) (cbN p v q i)) sz c p (v + (i + 1)) ((v + (i + 1)) / 4 * 4)
    rw [show v + (i + 1) = v + i + 1 by omega]
    by_cases z : (v + i + 1) % 4 = 0
    · rw [if_pos z] at this
      rw [show (v + i + 1) / 4 * 4 = v + i + 1 by omega]
      exact this
    · rw [if_neg z] at this
      rw [show (v + i + 1) / 4 * 4 = (v + i) / 4 * 4 by omega]
      exact this
