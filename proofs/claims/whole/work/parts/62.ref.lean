theorem c96 {LS : Nat} {rm : Nat → Nat → Option Nat} {im : Nat → Nat → Int32} {P : Option Value → (Nat → Nat → Int32) → Prop} {d r o : Nat} {x arg v : Int32} {S c : Nat → Int32} (hO : isMo LS rm) (ho : o < 6) (hC : rgC im d S c r) (hf : im 371 23 = 0) (hv : v = if o = 0 then x else arg) (hE : rgE im (rn_step o x arg (im 406) (im 405) d S c r) P) : Gm LS rm 96 0 (en_in 96 [.ref 371, .int (nI o), .int v]) [] im P := by
  rcases (show o = 0 ∨ o = 1 ∨ o = 2 ∨ o = 3 ∨ o = 4 ∨ o = 5 by omega) with rfl | rfl | rfl | rfl | rfl | rfl
  · exact c96_0 hO hC hf (by rw [if_pos rfl] at hv; exact hv) hE
  · exact c96_1 hO hC hf (by rw [if_neg (by decide)] at hv; exact hv) hE
  · exact c96_2 hO hC hf (by rw [if_neg (by decide)] at hv; exact hv) hE
  · exact c96_3 hO hC hf (by rw [if_neg (by decide)] at hv; exact hv) hE
  · exact c96_4 hO hC hf (by rw [if_neg (by decide)] at hv; exact hv) hE
  · exact c96_5 hO hC hf (by rw [if_neg (by decide)] at hv; exact hv) hE
theorem c97 {LS : Nat} {rm : Nat → Nat → Option Nat} {im : Nat → Nat → Int32} {P : Option Value → (Nat → Nat → Int32) → Prop} {d r o : Nat} {x arg : Int32} {S c : Nat → Int32} (hO : isMo LS rm) (ho : o ≤ 10) (ho7 : 7 ≤ o) (hC : rgC im d S c r) (hf : im 371 23 = 0) (hver : ∀ k, k < 16 → 0 ≤ im 406 k) (hE : rgE im (rn_step o x arg (im 406) (im 405) d S c r) P) : Gm LS rm 97 0 (en_in 97 [.ref 371, .int (nI o)]) [] im P := by
  rcases (show o = 7 ∨ o = 8 ∨ o = 9 ∨ o = 10 by omega) with rfl | rfl | rfl | rfl
  · exact c97_7 hO hC hf hver hE
  · exact c97_8 hO hC hf hver hE
  · exact c97_9 hO hC hf hver hE
  · exact c97_10 hO hC hf hver hE

/-! a whole run of the reference *-/
theorem rn_s {op : Nat → Nat} {opd : Nat → Int32} {arg : Int32} {ver val : Nat → Int32} {n : Nat} {s : Nat × (Nat → Int32) × (Nat → Int32) × Nat} (h : rn_run op opd arg ver val n = some (s, 0)) : rn_run op opd arg ver val (n + 1) = rn_step (op n) (opd n) arg ver val s.1 s.2.1 s.2.2.1 s.2.2.2 := by
  show (match rn_run op opd arg ver val n with
    | none => none
    | some q => if 0 < q.2 then some (q.1, q.2 - 1) else rn_step (op n) (opd n) arg ver val q.1.1 q.1.2.1 q.1.2.2.1 q.1.2.2.2) = _
  rw [h]
  rfl
theorem rn_skip {op : Nat → Nat} {opd : Nat → Int32} {arg : Int32} {ver val : Nat → Int32} {s : Nat × (Nat → Int32) × (Nat → Int32) × Nat} {i l : Nat} (h : rn_run op opd arg ver val i = some (s, l)) : ∀ j, j ≤ l → rn_run op opd arg ver val (i + j) = some (s, l - j) := by
  intro j
  induction j with
  | zero => intro _; exact h
  | succ j ih =>
    intro hj
    show (match rn_run op opd arg ver val (i + j) with
      | none => none
      | some q => if 0 < q.2 then some (q.1, q.2 - 1) else rn_step (op (i + j)) (opd (i + j)) arg ver val q.1.1 q.1.2.1 q.1.2.2.1 q.1.2.2.2) = _
    rw [ih (by omega)]
    show (if 0 < l - j then some (s, l - j - 1) else _) = _
    rw [if_pos (by omega), show l - j - 1 = l - (j + 1) by omega]
theorem rn_to {op : Nat → Nat} {opd : Nat → Int32} {arg : Int32} {ver val : Nat → Int32} {s : Nat × (Nat → Int32) × (Nat → Int32) × Nat} {i l len : Nat} (h : rn_run op opd arg ver val i = some (s, l)) (hi : i ≤ len) : rn_run op opd arg ver val (min (i + l) len) = some (s, i + l - len) := by
  by_cases z : i + l ≤ len
  · rw [show min (i + l) len = i + l by omega, rn_skip h l (Nat.le_refl _), show l - l = i + l - len by omega]
  · have := rn_skip h (len - i) (by omega)
    rw [show i + (len - i) = len by omega] at this
    rw [show min (i + l) len = len by omega, this, show l - (len - i) = i + l - len by omega]
def zR (v : Int32) (i : Nat) (f : Nat → Int32) : Nat → Int32 := fun x => if 960 ≤ x ∧ x < 960 + i then v else f x
theorem zR_0 {v : Int32} {f : Nat → Int32} : zR v 0 f = f := by funext x; unfold zR; rw [if_neg (by omega)]
theorem zR_s {v : Int32} {i : Nat} {f : Nat → Int32} : (fun x => if x = 960 + i then v else zR v i f x) = zR v (i + 1) f := by
  funext x
  unfold zR
  by_cases hx : x = 960 + i
  · rw [if_pos hx, if_pos (by omega)]
  · rw [if_neg hx]
    by_cases hy : 960 ≤ x ∧ x < 960 + i
    · rw [if_pos hy, if_pos (by omega)]
    · rw [if_neg hy, if_neg (by omega)]
def zM (im : Nat → Nat → Int32) (i : Nat) : Nat → Nat → Int32 := en_ur (en_ur (en_ur im 385 (zR (-1) i (im 385))) 386 (zR 0 i (im 386))) 387 (zR 0 i (im 387))
theorem zM_0 {im : Nat → Nat → Int32} : zM im 0 = im := by
  unfold zM
  rw [zR_0, zR_0, zR_0, ur_self]
  have e := ur_self (f := im) (b := 386)
  rw [e]
  exact ur_self (f := im) (b := 387)
theorem zM_s {im : Nat → Nat → Int32} {i : Nat} : en_u2 (en_u2 (en_u2 (zM im i) 385 (960 + i) (-1)) 386 (960 + i) 0) 387 (960 + i) 0 = zM im (i + 1) := by
  unfold zM
  rw [u2_ur (by decide), u2_ur (by decide), ur_u2, zR_s, u2_ur (by decide), ur_u2, zR_s, ur_u2, zR_s]
def zE (im : Nat → Nat → Int32) : Nat → Nat → Int32 := en_u2 (en_u2 (en_u2 (zM im 16) 388 60 0) 371 22 0) 371 23 0
theorem zE_F (im : Nat → Nat → Int32) : rgF im (zE im) := by
  unfold zE zM
  refine rgF_u (rgF_u (rgF_u (rgF_r (rgF_r (rgF_r (rgF_0 _) ?_) ?_) ?_) (by unfold rgX; omega)) (by unfold rgX; omega)) (by unfold rgX; omega)
  all_goals
    intro x hx
    unfold rgX at hx
    unfold zR
    rw [if_neg (by omega)]
theorem zE_C (im : Nat → Nat → Int32) : rgC (zE im) 0 (fun _ => 0) (rs_clr 80 (fun _ => 0)) 0 := by
  have e3 : zE im 385 = zR (-1) 16 (im 385) := by unfold zE zM; rw [en_u2_off (by decide), en_u2_off (by decide), en_u2_off (by decide), ur_ne (by decide), ur_ne (by decide), ur_eq]
  have e4 : zE im 386 = zR 0 16 (im 386) := by unfold zE zM; rw [en_u2_off (by decide), en_u2_off (by decide), en_u2_off (by decide), ur_ne (by decide), ur_eq]
  have e5 : zE im 387 = zR 0 16 (im 387) := by unfold zE zM; rw [en_u2_off (by decide), en_u2_off (by decide), en_u2_off (by decide), ur_eq]
  have c1 : ∀ k, k < 48 → rs_clr 80 (fun _ => 0) k = -1 := fun k hk => by unfold rs_clr; rw [if_pos (by omega), if_pos hk]
  have c2 : ∀ k, 48 ≤ k → rs_clr 80 (fun _ => 0) k = 0 := fun k hk => by unfold rs_clr; split; rw [if_neg (by omega)]; rfl
  refine ⟨?_, by decide, fun i hi => absurd hi (by omega), ?_, by decide, fun k hk => ?_, fun k hk => ?_, fun j hj => ⟨fun h => absurd h (by omega), fun _ k hk => c1 _ (by omega)⟩⟩
  · unfold zE; rw [u2_ne (by omega), u2_eq]; rfl
  · unfold zE; rw [en_u2_off (by decide), en_u2_off (by decide), u2_eq]; rfl
  · rw [c1 k (by omega), c2 (48 + k) (by omega)]; exact ⟨Or.inl rfl, Or.inl rfl⟩
  · rw [e3, e4, e5, c1 k (by omega), c2 (48 + k) (by omega), c2 (64 + k) (by omega)]
    unfold zR
    rw [if_pos (by omega), if_pos (by omega), if_pos (by omega)]
    exact ⟨rfl, rfl, rfl⟩
set_option maxRecDepth 20000 in
set_option maxHeartbeats 4000000 in
theorem f95 {LS : Nat} {rm : Nat → Nat → Option Nat} {im : Nat → Nat → Int32} {P : Option Value → (Nat → Nat → Int32) → Prop} {p len : Nat} {op : Nat → Nat} {opd : Nat → Int32} {arg : Int32} (hO : isMo LS rm) (hp : p < 4) (hl : im 372 p = nI len) (hl2 : len ≤ 12) (hop : ∀ i, i < len → im 373 (12 * p + i) = nI (op i) ∧ op i ≤ 10) (hod : ∀ i, i < len → im 374 (12 * p + i) = opd i ∧ (op i = 6 → opd i = nI (tn (opd i)) ∧ tn (opd i) ≤ 12)) (hver : ∀ k, k < 16 → 0 ≤ im 406 k) (h0 : rn_run op opd arg (im 406) (im 405) len = none → ∀ im', rgF im im' → im' 371 23 = 1 → P none im') (h1 : ∀ q, rn_run op opd arg (im 406) (im 405) len = some q → ∀ im', rgF im im' → rgC im' q.1.1 q.1.2.1 q.1.2.2.1 q.1.2.2.2 → im' 371 23 = 0 → P none im') : ∀ (m : Nat → Nat → Int32) (a : Nat) (u4 u5 u6 : Value), a < 1000 → rgF im m → m 371 23 = 1 → rn_run op opd arg (im 406) (im 405) len = none → Gm LS rm 95 67 [.ref 371, .int (nI p), .int arg, .int (nI a), u4, u5, u6] [] m P := by
  intro m a u4 u5 u6 ha hF hf hn
  refine g_iload_n k95_67 rfl ?_
  refine g_aload_n k95_68 rfl ?_
  refine g_getr k95_69 (sM371) (by decide) (mo_length hO) ?_
  refine g_iload_n k95_72 rfl ?_
  refine g_ialv (v := nI len) k95_73 (sM372) (hp) (by decide) (by rw [hF 372 p (by unfold rgX; omega)]; exact hl) ?_
  refine g_icmp_ge k95_74 (fun g => ?_) (fun g => ?_)
  · exact g_retv k95_179 rfl (h0 hn m hF hf)
  · refine g_aload_n k95_77 rfl ?_
    refine g_getv (v := 1) k95_78 (sM371) (by decide) (hf) ?_
    refine g_if_ne k95_81 (fun _ => ?_) (fun h9 => absurd h9 (by decide))
    exact g_retv k95_179 rfl (h0 hn m hF hf)

set_option maxRecDepth 20000 in
set_option maxHeartbeats 4000000 in
theorem l95 {LS : Nat} {rm : Nat → Nat → Option Nat} {im : Nat → Nat → Int32} {P : Option Value → (Nat → Nat → Int32) → Prop} {p len : Nat} {op : Nat → Nat} {opd : Nat → Int32} {arg : Int32} (hO : isMo LS rm) (hp : p < 4) (hl : im 372 p = nI len) (hl2 : len ≤ 12) (hop : ∀ i, i < len → im 373 (12 * p + i) = nI (op i) ∧ op i ≤ 10) (hod : ∀ i, i < len → im 374 (12 * p + i) = opd i ∧ (op i = 6 → opd i = nI (tn (opd i)) ∧ tn (opd i) ≤ 12)) (hver : ∀ k, k < 16 → 0 ≤ im 406 k) (h0 : rn_run op opd arg (im 406) (im 405) len = none → ∀ im', rgF im im' → im' 371 23 = 1 → P none im') (h1 : ∀ q, rn_run op opd arg (im 406) (im 405) len = some q → ∀ im', rgF im im' → rgC im' q.1.1 q.1.2.1 q.1.2.2.1 q.1.2.2.2 → im' 371 23 = 0 → P none im') : ∀ (n a : Nat), len ≤ a + n → a < 100 → ∀ (m : Nat → Nat → Int32) (u4 u5 u6 : Value) (s : Nat × (Nat → Int32) × (Nat → Int32) × Nat), rgF im m → m 371 23 = 0 → rgC m s.1 s.2.1 s.2.2.1 s.2.2.2 → rn_run op opd arg (im 406) (im 405) (min a len) = some (s, a - len) → Gm LS rm 95 67 [.ref 371, .int (nI p), .int arg, .int (nI a), u4, u5, u6] [] m P := by
  intro n
  induction n with
  | zero =>
    intro a hn ha m u4 u5 u6 s hF hf hC hs
    rw [show min a len = len by omega] at hs
    refine g_iload_n k95_67 rfl ?_
    refine g_aload_n k95_68 rfl ?_
    refine g_getr k95_69 (sM371) (by decide) (mo_length hO) ?_
    refine g_iload_n k95_72 rfl ?_
    refine g_ialv (v := nI len) k95_73 (sM372) (hp) (by decide) (by rw [hF 372 p (by unfold rgX; omega)]; exact hl) ?_
    refine g_icmp_ge k95_74 (fun _ => ?_) (fun h9 => absurd (nI_le (by omega) (by omega)) h9)
    exact g_retv k95_179 rfl (h1 _ hs m hF hC hf)
  | succ n ih =>
    intro a hn ha m u4 u5 u6 s hF hf hC hs
    refine g_iload_n k95_67 rfl ?_
    refine g_aload_n k95_68 rfl ?_
    refine g_getr k95_69 (sM371) (by decide) (mo_length hO) ?_
    refine g_iload_n k95_72 rfl ?_
    refine g_ialv (v := nI len) k95_73 (sM372) (hp) (by decide) (by rw [hF 372 p (by unfold rgX; omega)]; exact hl) ?_
    refine g_icmp_ge k95_74 (fun g => ?_) (fun g => ?_)
    · have hge : len ≤ a := (nI_leI (by omega) (by omega)).mp g
      rw [show min a len = len by omega] at hs
      exact g_retv k95_179 rfl (h1 _ hs m hF hC hf)
    · have hlt : a < len := Nat.not_le.mp (fun z => g (nI_le z (by omega)))
      rw [show min a len = a by omega, show a - len = 0 by omega] at hs
      have hst := rn_s hs
      obtain ⟨o1, o2⟩ := hop a hlt
      obtain ⟨o3, o4⟩ := hod a hlt
      have e4 : m 406 = im 406 := by funext k; exact hF 406 k (by unfold rgX; omega)
      have e5 : m 405 = im 405 := by funext k; exact hF 405 k (by unfold rgX; omega)
      rw [← e4, ← e5] at hst
      refine g_aload_n k95_77 rfl ?_
      refine g_getv (v := 0) k95_78 (sM371) (by decide) (hf) ?_
      refine g_if_ne k95_81 (fun h9 => absurd (rfl) h9) (fun _ => ?_)
      refine g_aload_n k95_84 rfl ?_
      refine g_getr k95_85 (sM371) (by decide) (mo_op hO) ?_
      refine g_bipush (v := 12) k95_88 bp_12 ?_
      refine g_iload_n k95_90 rfl ?_
      refine g_imul k95_91 ?_
      refine g_iload_n k95_92 rfl ?_
      refine g_iadd k95_93 ?_
      refine g_top (y := nI (12 * p + a)) (by rw [show (12 : Int32) = nI 12 from rfl, pk_mul, nI_add]) ?_
      refine g_ialv (v := nI (op a)) k95_94 (sM373) (by omega) (by decide) (by rw [hF 373 _ (by unfold rgX; omega)]; exact o1) ?_
      refine g_istore k95_95 (by decide) rfl ?_
      refine g_aload_n k95_97 rfl ?_
      refine g_getr k95_98 (sM371) (by decide) (mo_operand hO) ?_
      refine g_bipush (v := 12) k95_101 bp_12 ?_
      refine g_iload_n k95_103 rfl ?_
      refine g_imul k95_104 ?_
      refine g_iload_n k95_105 rfl ?_
      refine g_iadd k95_106 ?_
      refine g_top (y := nI (12 * p + a)) (by rw [show (12 : Int32) = nI 12 from rfl, pk_mul, nI_add]) ?_
      refine g_ialv (v := opd a) k95_107 (sM374) (by omega) (by decide) (by rw [hF 374 _ (by unfold rgX; omega)]; exact o3) ?_
      refine g_istore k95_108 (by decide) rfl ?_
      refine g_iincv (y := nI (a + 1)) k95_110 rfl (by decide) (inc_1 a) rfl ?_
      refine g_iload k95_113 rfl ?_
      refine g_bipush (v := 6) k95_115 bp_6 ?_
      refine g_icmp_ge k95_117 (fun gg => ?_) (fun gg => ?_)
      · have o6 : 6 ≤ op a := (nI_leI (a := 6) (by decide) (by omega)).mp gg
        refine g_iload k95_140 rfl ?_
        refine g_bipush (v := 6) k95_142 bp_6 ?_
        refine g_icmp_ne k95_144 (fun g6 => ?_) (fun g6 => ?_)
        · have o7 : op a ≠ 6 := fun z => g6 (by rw [z]; rfl)
          refine g_aload_n k95_170 rfl ?_
          refine g_iload k95_171 rfl ?_
          refine g_inv1 k95_173 (sM371) rfl (by decide) (Nat.le_of_ble_eq_true rfl) (c97 (x := opd a) (arg := arg) hO o2 (by omega) hC hf (by rw [e4]; exact hver) ⟨fun d' S' c' r' hq m2 hF2 hC2 hf2 => ?_, fun hq m2 hF2 hf2 => ?_⟩)
          · refine g_goto k95_176 ?_
            exact ih (a + 1) (by omega) (by omega) m2 _ _ _ (d', S', c', r') (rgF_t hF hF2) hf2 hC2 (by have := rn_to (i := a + 1) (l := 0) (len := len) (hst.trans hq) (by omega); rw [e4, e5] at this; exact this)
          · refine g_goto k95_176 ?_
            exact f95 hO hp hl hl2 hop hod hver h0 h1 m2 (a + 1) _ _ _ (by omega) (rgF_t hF hF2) hf2 (by have := rn_none (len - (a + 1)) (a + 1) (hst.trans hq); rw [show a + 1 + (len - (a + 1)) = len by omega, e4, e5] at this; exact this)
        · have o7 : op a = 6 := nI_inj (b := 6) g6 (by omega) (by decide)
          obtain ⟨y1, y2⟩ := o4 o7
          obtain ⟨hd, hb, hsk, hr⟩ := hC
          rw [o7] at hst
          refine g_aload_n k95_147 rfl ?_
          refine g_inv0 k95_148 (sM371) (by decide) (Nat.le_of_ble_eq_true rfl) (c93 hO hd hb (fun z => ?_) (fun z => ?_))
          · refine g_istore k95_151 (by decide) rfl ?_
            refine g_iload k95_153 rfl ?_
            refine g_if_ne k95_155 (fun h9 => absurd (rfl) h9) (fun _ => ?_)
            rw [y1]
            refine g_iload_n k95_158 rfl ?_
            refine g_iload k95_159 rfl ?_
            refine g_iadd k95_161 ?_
            refine g_top (y := nI (a + 1 + tn (opd a))) (nI_add _ _) ?_
            refine g_goto k95_162 ?_
            refine g_istore_n k95_166 (by decide) rfl ?_
            refine g_goto k95_167 ?_
            refine g_goto k95_176 ?_
            exact f95 hO hp hl hl2 hop hod hver h0 h1 _ (a + 1 + tn (opd a)) _ _ _ (by omega) (rgF_t hF (rgF_u (rgF_0 _) (by unfold rgX; omega))) (by rw [u2_eq]) (by have := rn_none (len - (a + 1)) (a + 1) (hst.trans (by simp [rn_step]; omega)); rw [show a + 1 + (len - (a + 1)) = len by omega, e4, e5] at this; exact this)
          · have ev := hsk (s.1 - 1) (by omega)
            rw [ev]
            refine g_istore k95_151 (by decide) rfl ?_
            refine g_iload k95_153 rfl ?_
            refine g_if_ne k95_155 (fun gv => ?_) (fun gv => ?_)
            · refine g_iload_n k95_165 rfl ?_
              refine g_istore_n k95_166 (by decide) rfl ?_
              refine g_goto k95_167 ?_
              refine g_goto k95_176 ?_
              exact ih (a + 1) (by omega) (by omega) _ _ _ _ (s.1 - 1, s.2.1, s.2.2.1, s.2.2.2) (rgF_t hF (rgF_u (rgF_0 _) (by unfold rgX; omega))) (by rw [u2_ne (by omega)]; exact hf) ⟨u2_eq, by show s.1 - 1 ≤ 8; omega, (fun i hi => by rw [en_u2_off (by decide)]; exact hsk i (by show i < s.1; have : i < s.1 - 1 := hi; omega)), resR_off (fun b hb1 hb2 => by rw [en_u2_off (by omega)]) hr⟩ (by have := rn_to (i := a + 1) (l := 0) (len := len) (s := (s.1 - 1, s.2.1, s.2.2.1, s.2.2.2)) (hst.trans (by simp [rn_step, show 1 ≤ s.1 by omega, gv])) (by omega); rw [e4, e5] at this; exact this)
            · rw [y1]
              refine g_iload_n k95_158 rfl ?_
              refine g_iload k95_159 rfl ?_
              refine g_iadd k95_161 ?_
              refine g_top (y := nI (a + 1 + tn (opd a))) (nI_add _ _) ?_
              refine g_goto k95_162 ?_
              refine g_istore_n k95_166 (by decide) rfl ?_
              refine g_goto k95_167 ?_
              refine g_goto k95_176 ?_
              exact ih (a + 1 + tn (opd a)) (by omega) (by omega) _ _ _ _ (s.1 - 1, s.2.1, s.2.2.1, s.2.2.2) (rgF_t hF (rgF_u (rgF_0 _) (by unfold rgX; omega))) (by rw [u2_ne (by omega)]; exact hf) ⟨u2_eq, by show s.1 - 1 ≤ 8; omega, (fun i hi => by rw [en_u2_off (by decide)]; exact hsk i (by show i < s.1; have : i < s.1 - 1 := hi; omega)), resR_off (fun b hb1 hb2 => by rw [en_u2_off (by omega)]) hr⟩ (by have := rn_to (i := a + 1) (l := tn (opd a)) (len := len) (s := (s.1 - 1, s.2.1, s.2.2.1, s.2.2.2)) (hst.trans (by simp [rn_step, show 1 ≤ s.1 by omega, gv])) (by omega); rw [e4, e5] at this; exact this)
      · have o6 : op a < 6 := Nat.not_le.mp (fun z => gg (nI_le (a := 6) z (by omega)))
        refine g_aload_n k95_120 rfl ?_
        refine g_iload k95_121 rfl ?_
        refine g_iload k95_123 rfl ?_
        refine g_if_ne k95_125 (fun gz => ?_) (fun gz => ?_)
        · refine g_iload_n k95_133 rfl ?_
          refine g_inv2 k95_134 (sM371) rfl rfl (by decide) (Nat.le_of_ble_eq_true rfl) (c96 (x := opd a) (arg := arg) hO o6 hC hf (by rw [if_neg (fun z => gz (by rw [z]; rfl))]) ⟨fun d' S' c' r' hq m2 hF2 hC2 hf2 => ?_, fun hq m2 hF2 hf2 => ?_⟩)
          · refine g_goto k95_137 ?_
            refine g_goto k95_176 ?_
            exact ih (a + 1) (by omega) (by omega) m2 _ _ _ (d', S', c', r') (rgF_t hF hF2) hf2 hC2 (by have := rn_to (i := a + 1) (l := 0) (len := len) (hst.trans hq) (by omega); rw [e4, e5] at this; exact this)
          · refine g_goto k95_137 ?_
            refine g_goto k95_176 ?_
            exact f95 hO hp hl hl2 hop hod hver h0 h1 m2 (a + 1) _ _ _ (by omega) (rgF_t hF hF2) hf2 (by have := rn_none (len - (a + 1)) (a + 1) (hst.trans hq); rw [show a + 1 + (len - (a + 1)) = len by omega, e4, e5] at this; exact this)
        · refine g_iload k95_128 rfl ?_
          refine g_goto k95_130 ?_
          refine g_inv2 k95_134 (sM371) rfl rfl (by decide) (Nat.le_of_ble_eq_true rfl) (c96 (x := opd a) (arg := arg) hO o6 hC hf (by rw [if_pos (nI_inj (b := 0) gz (by omega) (by decide))]) ⟨fun d' S' c' r' hq m2 hF2 hC2 hf2 => ?_, fun hq m2 hF2 hf2 => ?_⟩)
          · refine g_goto k95_137 ?_
            refine g_goto k95_176 ?_
            exact ih (a + 1) (by omega) (by omega) m2 _ _ _ (d', S', c', r') (rgF_t hF hF2) hf2 hC2 (by have := rn_to (i := a + 1) (l := 0) (len := len) (hst.trans hq) (by omega); rw [e4, e5] at this; exact this)
          · refine g_goto k95_137 ?_
            refine g_goto k95_176 ?_
            exact f95 hO hp hl hl2 hop hod hver h0 h1 m2 (a + 1) _ _ _ (by omega) (rgF_t hF hF2) hf2 (by have := rn_none (len - (a + 1)) (a + 1) (hst.trans hq); rw [show a + 1 + (len - (a + 1)) = len by omega, e4, e5] at this; exact this)

set_option maxRecDepth 20000 in
set_option maxHeartbeats 4000000 in
theorem l95z {LS : Nat} {rm : Nat → Nat → Option Nat} {im : Nat → Nat → Int32} {P : Option Value → (Nat → Nat → Int32) → Prop} {p len : Nat} {op : Nat → Nat} {opd : Nat → Int32} {arg : Int32} (hO : isMo LS rm) (hp : p < 4) (hl : im 372 p = nI len) (hl2 : len ≤ 12) (hop : ∀ i, i < len → im 373 (12 * p + i) = nI (op i) ∧ op i ≤ 10) (hod : ∀ i, i < len → im 374 (12 * p + i) = opd i ∧ (op i = 6 → opd i = nI (tn (opd i)) ∧ tn (opd i) ≤ 12)) (hver : ∀ k, k < 16 → 0 ≤ im 406 k) (h0 : rn_run op opd arg (im 406) (im 405) len = none → ∀ im', rgF im im' → im' 371 23 = 1 → P none im') (h1 : ∀ q, rn_run op opd arg (im 406) (im 405) len = some q → ∀ im', rgF im im' → rgC im' q.1.1 q.1.2.1 q.1.2.2.1 q.1.2.2.2 → im' 371 23 = 0 → P none im') : ∀ (n i : Nat), i + n = 16 → Gm LS rm 95 2 [.ref (371), .int (nI p), .int (arg), .int (nI i), .long 0, .long 0, .long 0] [] (zM im i) P := by
  intro n
  induction n with
  | zero =>
    intro i hi
    have hie : i = 16 := by omega
    subst hie
    refine g_iload_n k95_2 rfl ?_
    refine g_bipush (v := 16) k95_3 bp_16 ?_
    refine g_icmp_ge k95_5 (fun _ => ?_) (fun h9 => absurd (nI_le (Nat.le_refl _) (by decide)) h9)
    refine g_aload_n k95_47 rfl ?_
    refine g_getr k95_48 (sM371) (by decide) (mo_ranges hO) ?_
    refine g_bipush (v := nI 60) k95_51 bp_60 ?_
    refine g_iconst (v := 0) k95_53 ic_0 ?_
    refine g_iasv k95_54 (sM388) (by decide) (by decide) ?_
    refine g_aload_n k95_55 rfl ?_
    refine g_iconst (v := 0) k95_56 ic_0 ?_
    refine g_puti k95_57 (by decide) (sM371) (by decide) ?_
    refine g_aload_n k95_60 rfl ?_
    refine g_iconst (v := 0) k95_61 ic_0 ?_
    refine g_putz k95_62 (by decide) (sM371) (by decide) (by decide) ?_
    refine g_iconst (v := 0) k95_65 ic_0 ?_
    refine g_istore_n k95_66 (by decide) rfl ?_
    exact l95 hO hp hl hl2 hop hod hver h0 h1 len 0 (by omega) (by decide) (zE im) _ _ _ (0, (fun _ => 0), rs_clr 80 (fun _ => 0), 0) (zE_F im) (by unfold zE; rw [u2_eq]) (zE_C im) (by rw [show min 0 len = 0 by omega, show 0 - len = 0 by omega]; rfl)
  | succ n ih =>
    intro i hi
    have hlt : i < 16 := by omega
    refine g_iload_n k95_2 rfl ?_
    refine g_bipush (v := 16) k95_3 bp_16 ?_
    refine g_icmp_ge k95_5 (fun h9 => absurd h9 (nI_ge hlt (by decide))) (fun _ => ?_)
    refine g_aload_n k95_8 rfl ?_
    refine g_getr k95_9 (sM371) (by decide) (mo_read hO) ?_
    refine g_sipush (v := 960) k95_12 sp_960 ?_
    refine g_iload_n k95_15 rfl ?_
    refine g_iadd k95_16 ?_
    refine g_top (y := nI (960 + i)) (nI_add 960 _) ?_
    refine g_iconst (v := -1) k95_17 ic_m1 ?_
    refine g_iasv k95_18 (sM385) (by omega) (by decide) ?_
    refine g_aload_n k95_19 rfl ?_
    refine g_getr k95_20 (sM371) (by decide) (mo_wrote hO) ?_
    refine g_sipush (v := 960) k95_23 sp_960 ?_
    refine g_iload_n k95_26 rfl ?_
    refine g_iadd k95_27 ?_
    refine g_top (y := nI (960 + i)) (nI_add 960 _) ?_
    refine g_iconst (v := 0) k95_28 ic_0 ?_
    refine g_iasv k95_29 (sM386) (by omega) (by decide) ?_
    refine g_aload_n k95_30 rfl ?_
    refine g_getr k95_31 (sM371) (by decide) (mo_written hO) ?_
    refine g_sipush (v := 960) k95_34 sp_960 ?_
    refine g_iload_n k95_37 rfl ?_
    refine g_iadd k95_38 ?_
    refine g_top (y := nI (960 + i)) (nI_add 960 _) ?_
    refine g_iconst (v := 0) k95_39 ic_0 ?_
    refine g_iasv k95_40 (sM387) (by omega) (by decide) ?_
    refine g_im zM_s ?_
    refine g_iincv (y := nI (i + 1)) k95_41 rfl (by decide) (inc_1 i) rfl ?_
    refine g_goto k95_44 ?_
    exact ih (i + 1) (by omega)

set_option maxRecDepth 20000 in
set_option maxHeartbeats 4000000 in
theorem c95 {LS : Nat} {rm : Nat → Nat → Option Nat} {im : Nat → Nat → Int32} {P : Option Value → (Nat → Nat → Int32) → Prop} {p len : Nat} {op : Nat → Nat} {opd : Nat → Int32} {arg : Int32} (hO : isMo LS rm) (hp : p < 4) (hl : im 372 p = nI len) (hl2 : len ≤ 12) (hop : ∀ i, i < len → im 373 (12 * p + i) = nI (op i) ∧ op i ≤ 10) (hod : ∀ i, i < len → im 374 (12 * p + i) = opd i ∧ (op i = 6 → opd i = nI (tn (opd i)) ∧ tn (opd i) ≤ 12)) (hver : ∀ k, k < 16 → 0 ≤ im 406 k) (h0 : rn_run op opd arg (im 406) (im 405) len = none → ∀ im', rgF im im' → im' 371 23 = 1 → P none im') (h1 : ∀ q, rn_run op opd arg (im 406) (im 405) len = some q → ∀ im', rgF im im' → rgC im' q.1.1 q.1.2.1 q.1.2.2.1 q.1.2.2.2 → im' 371 23 = 0 → P none im') : Gm LS rm 95 0 (en_in 95 [.ref 371, .int (nI p), .int arg]) [] im P := by
  show Gm LS rm 95 0 [.ref (371), .int (nI p), .int (arg), .long 0, .long 0, .long 0, .long 0] [] im P
  refine g_iconst (v := 0) k95_0 ic_0 ?_
  refine g_istore_n k95_1 (by decide) rfl ?_
  have := l95z hO hp hl hl2 hop hod hver h0 h1 16 0 (by omega)
  rw [zM_0] at this
  exact this

